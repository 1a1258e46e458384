abbrev tr_d_X12_goesOn__3 (K2 : Int → St → Prop) (z22 : Int) (u : St) (A60 : St) : Prop := ((IM A60) ∧ (K2 (z22 + 1) A60))
def d_X12_goesOn__3 (K2 : Int → St → Prop) (z22 : Int) (u : St) (A60 : St) : Prop := tr_d_X12_goesOn__3 K2 z22 u A60
theorem u_d_X12_goesOn__3 {K2 : Int → St → Prop} {z22 : Int} {u : St} {A60 : St} (h : tr_d_X12_goesOn__3 K2 z22 u A60) : d_X12_goesOn__3 K2 z22 u A60 := h
abbrev tr_d_X12_goesOn__2 (x1 : Int) (z1 : Int) (A : St) (u : St) (K2 : Int → St → Prop) (z22 : Int) (A24 : St) : Prop := ((IM A24) ∧ ((0 ≤ z22 ∧ z22 ≤ 4) ∧ (∃ z34 : Int, z34 = A24 11 ((A 0 12)).toNat ∧ (((z34 ≤ z22) ∧ (u = A24)) ∨ ((¬ z34 ≤ z22) ∧ (∃ A36 : St, q_X12_takes x1 A24 A36 ∧ (∃ z39 : Int, z39 = oShr (A 0 71) z22 ∧ (∃ z40 : Int, z40 = oAnd z39 1 ∧ (((z40 = 0) ∧ (d_X12_goesOn__3 K2 z22 u A36)) ∨ ((¬ z40 = 0) ∧ (∃ z43 : Int, z43 = A36 49 (z22).toNat ∧ (((z43 = 0) ∧ (d_X12_goesOn__3 K2 z22 u A36)) ∨ ((¬ z43 = 0) ∧ (∃ z45 : Int, q_X12_key4 z22 A36 z45 ∧ (∃ z48 : Int, z48 = A36 49 (z22).toNat ∧ (∃ z49 : Int, z49 = A36 15 (40 * (A 0 12) + 10 * z22 + z48 - 1).toNat ∧ (∃ z50 : Int, q_X12_isAt (A36 0 67) z49 A36 z50 ∧ (((¬ z50 = 0) ∧ (∃ z54 : Int, z54 = A36 49 (z22).toNat ∧ (∃ A55 : St, A55 = (stA A36 49 (z22).toNat (z54 - 1)) ∧ (∃ A56 : St, q_X12_comes (z1 + 1) A55 A56 ∧ (d_X12_goesOn__3 K2 z22 u A56))))) ∨ ((z50 = 0) ∧ (d_X12_goesOn__3 K2 z22 u A36))))))))))))))))))))
def d_X12_goesOn__2 (x1 : Int) (z1 : Int) (A : St) (u : St) : Nat → Int → St → Prop
  | 0, _, _ => False
  | nn9 + 1, z22, A24 => tr_d_X12_goesOn__2 x1 z1 A u (fun z22 A24 => d_X12_goesOn__2 x1 z1 A u nn9 z22 A24) z22 A24
theorem u_d_X12_goesOn__2 {x1 : Int} {z1 : Int} {A : St} {u : St} {nn9 : Nat} {z22 : Int} {A24 : St} (h : tr_d_X12_goesOn__2 x1 z1 A u (fun z22 A24 => d_X12_goesOn__2 x1 z1 A u nn9 z22 A24) z22 A24) : d_X12_goesOn__2 x1 z1 A u (nn9 + 1) z22 A24 := h
abbrev tr_d_X12_goesOn__4 (K1 : Int → St → Prop) (z8 : Int) (u : St) (A98 : St) : Prop := ((IM A98) ∧ (K1 (z8 + 1) A98))
def d_X12_goesOn__4 (K1 : Int → St → Prop) (z8 : Int) (u : St) (A98 : St) : Prop := tr_d_X12_goesOn__4 K1 z8 u A98
theorem u_d_X12_goesOn__4 {K1 : Int → St → Prop} {z8 : Int} {u : St} {A98 : St} (h : tr_d_X12_goesOn__4 K1 z8 u A98) : d_X12_goesOn__4 K1 z8 u A98 := h
abbrev tr_d_X12_goesOn__1 (x1 : Int) (z1 : Int) (z5 : Int) (A : St) (u : St) (K1 : Int → St → Prop) (z8 : Int) (A10 : St) : Prop := ((IM A10) ∧ ((0 ≤ z8 ∧ z8 ≤ 10) ∧ (∃ z20 : Int, z20 = A10 4 ((A 0 12)).toNat ∧ (((z20 ≤ z8) ∧ (∃ nn9 : Nat, d_X12_goesOn__2 x1 z1 A u nn9 0 A10)) ∨ ((¬ z20 ≤ z8) ∧ (∃ A64 : St, q_X12_takes x1 A10 A64 ∧ (∃ z67 : Int, q_X12_door10 z8 A64 z67 ∧ (∃ z70 : Int, z70 = A64 8 (10 * (A 0 12) + z8).toNat ∧ (((¬ z70 = 0) ∧ (d_X12_goesOn__4 K1 z8 u A64)) ∨ ((z70 = 0) ∧ (∃ z73 : Int, q_X12_isAt (A64 0 67) z8 A64 z73 ∧ (((z73 = 0) ∧ (d_X12_goesOn__4 K1 z8 u A64)) ∨ ((¬ z73 = 0) ∧ (∃ z77 : Int, q_X12_isClosed z8 A64 z77 ∧ (((¬ z77 = 0) ∧ (d_X12_goesOn__4 K1 z8 u A64)) ∨ ((z77 = 0) ∧ (∃ z81 : Int, q_X12_bitsOf (A 0 71) A64 z81 ∧ (∃ z84 : Int, ∃ A85 : St, q_X12_isBarred z8 (A 0 70) (A64 0 67) z81 z5 A64 z84 A85 ∧ (((z84 = 0) ∧ (∃ z90 : Int, q_X12_otherSide z8 (A64 0 67) A85 z90 ∧ (∃ A93 : St, A93 = (stA A85 0 67 z90) ∧ (∃ A94 : St, q_X12_comes (z1 + 1) A93 A94 ∧ (d_X12_goesOn__4 K1 z8 u A94))))) ∨ ((¬ z84 = 0) ∧ (d_X12_goesOn__4 K1 z8 u A85)))))))))))))))))))))
def d_X12_goesOn__1 (x1 : Int) (z1 : Int) (z5 : Int) (A : St) (u : St) : Nat → Int → St → Prop
  | 0, _, _ => False
  | nn9 + 1, z8, A10 => tr_d_X12_goesOn__1 x1 z1 z5 A u (fun z8 A10 => d_X12_goesOn__1 x1 z1 z5 A u nn9 z8 A10) z8 A10
theorem u_d_X12_goesOn__1 {x1 : Int} {z1 : Int} {z5 : Int} {A : St} {u : St} {nn9 : Nat} {z8 : Int} {A10 : St} (h : tr_d_X12_goesOn__1 x1 z1 z5 A u (fun z8 A10 => d_X12_goesOn__1 x1 z1 z5 A u nn9 z8 A10) z8 A10) : d_X12_goesOn__1 x1 z1 z5 A u (nn9 + 1) z8 A10 := h
abbrev tr_r_X12_goesOn_ (x1 : Int) (A : St) (u : St) : Prop := (∃ z1 : Int, z1 = A 47 (x1).toNat ∧ (∃ A2 : St, q_X12_takes x1 A A2 ∧ (∃ z5 : Int, q_X12_closedNow A2 z5 ∧ (∃ nn9 : Nat, d_X12_goesOn__1 x1 z1 z5 A u nn9 0 A2))))
def r_X12_goesOn_ (x1 : Int) (A : St) (u : St) : Prop := tr_r_X12_goesOn_ x1 A u
theorem u_r_X12_goesOn_ {x1 : Int} {A : St} {u : St} (h : tr_r_X12_goesOn_ x1 A u) : r_X12_goesOn_ x1 A u := h
def q_X12_goesOn_ (x1 : Int) (A : St) (u : St) : Prop := r_X12_goesOn_ x1 A u ∧ IM u ∧ fr [42, 43, 47, 48, 49] [66, 67, 69] A u ∧ CI u ∧ QI u ∧ (A 0 66 ≤ u 0 66)
def ws_mb_X12_goesOn_ : List Cond := .code yX12_goesOn_ cX12_goesOn_ 5 none :: WX
set_option maxHeartbeats 4000000 in
set_option maxRecDepth 100000 in
theorem mb_X12_goesOn_ (l : Launch) (dC : Nat → ClassId) (dI : Nat → Nat → Nat) (cB cI cJ cZ cQ : ClassId) (q : Nat → Nat) (A : St) (x1 : Int) (hI : IM A) (hx1 : (0 : Int) ≤ x1 ∧ x1 ≤ 76831) (hp0 : 0 ≤ A 47 x1.toNat) (hp1 : A 47 x1.toNat + 1 ≤ A 0 66) (hcCI : CI A) (hcQI : QI A) : XMv l yX12_goesOn_ ws_mb_X12_goesOn_ ({ frames := 4, cells := 0, slots := 0, locals := 100 } : Room) (dC, dI) (tyA cB cI cJ cZ cQ) (WM cI cJ cZ q) A [.ref (q 0), .int (iI x1)] (fun u => r_X12_goesOn_ x1 A u ∧ IM u ∧ fr [42, 43, 47, 48, 49] [66, 67, 69] A u ∧ CI u ∧ QI u ∧ (A 0 66 ≤ u 0 66)) := by
  refine x_metv (cc := cX12_goesOn_) (maxL := 5) WM_adr (by decide +kernel) rfl (Nat.le_of_ble_eq_true rfl) (fun p e s m below meth c Q AS ls hx hb hml hown hts hK hDD hA0 hP hS hl RET => ?_)
  have hown : s.vm.findClass RX12 = some m.cls := hown
  have hl : lv_has ls 5 [(0, .ref (q 0)), (1, .int (iI x1))] := hl
  have hiX12 : ∀ w ∈ u_ws RX12 TX12 85, w ∈ ws_mb_X12_goesOn_ := fun w h => List.mem_cons_of_mem _ (wx_lay w h)
  obtain ⟨H, hHe⟩ : ∃ H : Heap, H = s.heap := ⟨_, rfl⟩
  rw [← hHe] at hP
  have hS : va_S AS s.heap H [] := by rw [hHe]; exact hS
  suffices hgo : ∀ locs : List Loc, va_S AS s.heap H locs → W p l e (headSpec ws_mb_X12_goesOn_ ({ frames := 4, cells := 0, slots := 0, locals := 100 } : Room)).room s m [.ref (q 0), .int (iI x1)].toArray below meth c H locs 0 0 Q (F0 m 0 ls []) by
    have := hgo [] hS
    rw [hHe] at this
    exact this
  clear hS hHe
  intro locs hS
  refine lv_aload_n hx hb (dk_at dkX12_goesOn__0 0 rfl) rfl (lv_at hl 0 rfl) ?_
  refine va_get (D := (dC, dI)) (ci := 12) (v := .ref (q 47)) (C := RX12) (T := TX12) (N := 85) hx hb hts hiX12 hown hK hP 0 wm0 rfl 64 (by decide) (hts _ (List.mem_cons_of_mem _ wlq_6_51)) (fun _ h9 => h9) rfl (dk_at dkX12_goesOn__0 1 rfl) ?_
  refine lv_iload_n hx hb (dk_at dkX12_goesOn__0 2 rfl) rfl (lv_at hl 1 rfl) ?_
  refine x_iald hx hb hK hP 47 1 wm47 rfl (by omega) (by decide) (dk_at dkX12_goesOn__0 3 rfl) (fun z1 hz1 => ?_)
  have rz1 : (-1 : Int) ≤ z1 ∧ z1 ≤ 76832 := by rw [hz1]; exact hI 47 _
  have gz1 := Hd.mk hz1
  have hz1 : z1 = A 47 (x1).toNat := hz1
  refine lv_iconst (v := iI 1) hx hb (dk_at dkX12_goesOn__0 4 rfl) (by decide +kernel) ?_
  refine x_addv (v := z1 + 1) hx hb (dk_at dkX12_goesOn__0 5 rfl) (by omega) ?_
  refine lv_istore_n (lv' := [(2, .int (iI (z1 + 1))), (0, .ref (q 0)), (1, .int (iI x1))]) hx hb (dk_at dkX12_goesOn__0 6 rfl) rfl hl (by decide) rfl (fun ls hl => ?_)
  refine lv_aload_n hx hb (dk_at dkX12_goesOn__0 7 rfl) rfl (lv_at hl 1 rfl) ?_
  refine lv_iload_n hx hb (dk_at dkX12_goesOn__0 8 rfl) rfl (lv_at hl 2 rfl) ?_
  refine x_callv (As := [.int (iI x1)]) (rest := []) ⟨hx, hb, hml, hown, hts⟩ (mc_X12_takes l dC dI cB cI cJ cZ cQ q _ x1 hI hx1) (cwV 1 hts (goodV wlq_7_11 wlq_7_12 wlq_7_13 wlq_0_8 wlq_6_41) rfl rfl rfl (by decide +kernel) ⟨Nat.le_of_ble_eq_true rfl, Nat.le_of_ble_eq_true rfl⟩) hK hDD hA0 hP hS 0 12 wm0 rfl rfl hl.1 (Nat.le_of_ble_eq_true rfl) (dk_at dkX12_goesOn__0 9 rfl) (fun A2 H locs hw3 hP hS => ?_)
  have ghw3 : q_X12_takes x1 A A2 := hw3
  obtain ⟨_, hI, hf4, hw3⟩ := hw3
  clear hw3
  refine lv_aload_n hx hb (dk_at dkX12_goesOn__0 10 rfl) rfl (lv_at hl 1 rfl) ?_
  refine x_calli (As := []) (rest := []) ⟨hx, hb, hml, hown, hts⟩ (mc_X12_closedNow l dC dI cB cI cJ cZ cQ q _ hI) (cwV 0 hts (goodV wlq_7_14 wlq_7_15 wlq_7_16 wlq_0_8 wlq_6_43) rfl rfl rfl (by decide +kernel) ⟨Nat.le_of_ble_eq_true rfl, Nat.le_of_ble_eq_true rfl⟩) hK hDD hA0 hP hS 0 12 wm0 rfl rfl hl.1 (Nat.le_of_ble_eq_true rfl) (dk_at dkX12_goesOn__0 11 rfl) (fun z5 A6 H locs hw7 hP hS => ?_)
  obtain ⟨rfl, hw7⟩ := hw7
  have ghw7 : q_X12_closedNow A2 z5 := hw7
  have hw7 := hw7.2
  refine lv_istore_n (lv' := [(3, .int (iI z5)), (2, .int (iI (z1 + 1))), (0, .ref (q 0)), (1, .int (iI x1))]) hx hb (dk_at dkX12_goesOn__0 12 rfl) rfl hl (by decide) rfl (fun ls hl => ?_)
  refine lv_iconst (v := iI 0) hx hb (dk_at dkX12_goesOn__0 13 rfl) (by decide +kernel) ?_
  refine lv_istore (lv' := [(4, .int (iI 0)), (3, .int (iI z5)), (2, .int (iI (z1 + 1))), (0, .ref (q 0)), (1, .int (iI x1))]) hx hb (dk_at dkX12_goesOn__0 14 rfl) hl (by decide) rfl (fun ls hl => ?_)
  have e_A2_66 : A2 0 66 = (A 0 66) := (hf4.2 66 rfl)
  have r_A_0_66 : (0 : Int) ≤ (A 0 66) ∧ (A 0 66) ≤ 76832 := by rw [← e_A2_66]; exact hI 0 66
  have L22_12 : ∀ (n14 : Nat) (z8 : Int) (A10 : St) (H : Heap) (locs : List Loc) (ls : Array Slot), (0 ≤ z8) → (0 ≤ z8 ∧ z8 ≤ 10) → (A 0 66 ≤ (A10 0 66)) → (QI A10) → (∀ (u : St), (∃ mm1 : Nat, (d_X12_goesOn__1 x1 z1 z5 A u mm1 z8 A10)) → r_X12_goesOn_ x1 A u) → ((A 4 ((A 0 12)).toNat - z8 + 1).toNat = n14) → IM A10 → fr [42, 43, 47, 48, 49] [66, 67, 69] A2 A10 → va_P (dC, dI) vwCl (WM cI cJ cZ q A10) H → va_S AS s.heap H locs → lv_has ls 5 [(4, .int (iI z8)), (3, .int (iI z5)), (2, .int (iI (z1 + 1))), (0, .ref (q 0)), (1, .int (iI x1))] → W p l e (headSpec ws_mb_X12_goesOn_ ({ frames := 4, cells := 0, slots := 0, locals := 100 } : Room)).room s m [.ref (q 0), .int (iI x1)].toArray below meth c H locs 0 0 Q (F0 m 22 ls []) := by
    intro n14
    induction n14 using Nat.strongRecOn with
    | ind n14 ih13 =>
      intro z8 A10 H locs ls f15 f16 f17 hc18 hk1 hn14 hI hj9 hP hS hl
      have gI19 : Hd (IM A10) := Hd.mk hI
      have r_A10_0_66 : (0 : Int) ≤ (A10 0 66) ∧ (A10 0 66) ≤ 76832 := hI 0 66
      refine lv_iload hx hb (dk_at dkX12_goesOn__0 15 rfl) (lv_at hl 0 rfl) ?_
      refine lv_aload_n hx hb (dk_at dkX12_goesOn__1 0 rfl) rfl (lv_at hl 3 rfl) ?_
      refine va_get (D := (dC, dI)) (ci := 12) (v := .ref (q 4)) (C := RX12) (T := TX12) (N := 85) hx hb hts hiX12 hown hK hP 0 wm0 rfl 15 (by decide) (hts _ (List.mem_cons_of_mem _ wlq_1_13)) (fun _ h9 => h9) rfl (dk_at dkX12_goesOn__1 1 rfl) ?_
      refine lv_aload_n hx hb (dk_at dkX12_goesOn__1 2 rfl) rfl (lv_at hl 3 rfl) ?_
      have e_A2_12 : A2 0 12 = (A 0 12) := (hf4.2 12 rfl)
      have e_A10_12 : A10 0 12 = (A 0 12) := (hj9.2 12 rfl).trans e_A2_12
      refine va_get (D := (dC, dI)) (ci := 12) (v := .int (iI (A10 0 12))) (C := RX12) (T := TX12) (N := 85) hx hb hts hiX12 hown hK hP 0 wm0 rfl 12 (by decide) (hts _ (List.mem_cons_of_mem _ wlq_4_14)) (fun _ h9 => h9) rfl (dk_at dkX12_goesOn__1 3 rfl) ?_
      refine tp_i (y := iI (A 0 12)) (congrArg iI e_A10_12) ?_
      have r_A_0_12 : (0 : Int) ≤ (A 0 12) ∧ (A 0 12) ≤ 1 := by rw [← e_A10_12]; exact hI 0 12
      have a_A2_4 : A2 4 = A 4 := (hf4.1 4 (by decide) rfl)
      have a_A10_4 : A10 4 = A 4 := (hj9.1 4 (by decide) rfl).trans a_A2_4
      refine x_iald hx hb hK hP 4 1 wm4 rfl (by omega) (by decide) (dk_at dkX12_goesOn__1 4 rfl) (fun z20 hz20 => ?_)
      have rz20 : (0 : Int) ≤ z20 ∧ z20 ≤ 10 := by rw [hz20]; exact hI 4 _
      have gz20 := Hd.mk hz20
      have hz20 : z20 = A 4 ((A 0 12)).toNat := hz20.trans (congrFun a_A10_4 _)
      refine lv_icmp_ge (tgt := 130) hx hb (dk_at dkX12_goesOn__1 5 rfl) (by decide) (fun c21 => ?_) (fun c21 => ?_)
      · have c21 : z20 ≤ z8 := (i_le (rb rz20 (by decide) (by decide)) (rb f16 (by decide) (by decide))).mp c21
        refine lv_iconst (v := iI 0) hx hb (dk_at dkX12_goesOn__4 3 rfl) (by decide +kernel) ?_
        refine lv_istore (lv' := [(4, .int (iI 0)), (3, .int (iI z5)), (2, .int (iI (z1 + 1))), (0, .ref (q 0)), (1, .int (iI x1))]) hx hb (dk_at dkX12_goesOn__4 4 rfl) hl (by decide) rfl (fun ls hl => ?_)
        have L133_26 : ∀ (n28 : Nat) (z22 : Int) (A24 : St) (H : Heap) (locs : List Loc) (ls : Array Slot), (0 ≤ z22) → (0 ≤ z22 ∧ z22 ≤ 4) → (A 0 66 ≤ (A24 0 66)) → (QI A24) → (∀ (u : St), (∃ mm1 mm2 : Nat, (d_X12_goesOn__2 x1 z1 A u mm2 z22 A24)) → r_X12_goesOn_ x1 A u) → ((A 11 ((A 0 12)).toNat - z22 + 1).toNat = n28) → IM A24 → fr [47, 48, 49] [66, 67, 69] A10 A24 → va_P (dC, dI) vwCl (WM cI cJ cZ q A24) H → va_S AS s.heap H locs → lv_has ls 5 [(4, .int (iI z22)), (3, .int (iI z5)), (2, .int (iI (z1 + 1))), (0, .ref (q 0)), (1, .int (iI x1))] → W p l e (headSpec ws_mb_X12_goesOn_ ({ frames := 4, cells := 0, slots := 0, locals := 100 } : Room)).room s m [.ref (q 0), .int (iI x1)].toArray below meth c H locs 0 0 Q (F0 m 133 ls []) := by
          intro n28
          induction n28 using Nat.strongRecOn with
          | ind n28 ih27 =>
            intro z22 A24 H locs ls f29 f30 f31 hc32 hk2 hn28 hI hj23 hP hS hl
            have gI33 : Hd (IM A24) := Hd.mk hI
            have r_A24_0_66 : (0 : Int) ≤ (A24 0 66) ∧ (A24 0 66) ≤ 76832 := hI 0 66
            refine lv_iload hx hb (dk_at dkX12_goesOn__4 5 rfl) (lv_at hl 0 rfl) ?_
            refine lv_aload_n hx hb (dk_at dkX12_goesOn__4 6 rfl) rfl (lv_at hl 3 rfl) ?_
            refine va_get (D := (dC, dI)) (ci := 12) (v := .ref (q 11)) (C := RX12) (T := TX12) (N := 85) hx hb hts hiX12 hown hK hP 0 wm0 rfl 22 (by decide) (hts _ (List.mem_cons_of_mem _ wlq_1_14)) (fun _ h9 => h9) rfl (dk_at dkX12_goesOn__4 7 rfl) ?_
            refine lv_aload_n hx hb (dk_at dkX12_goesOn__4 8 rfl) rfl (lv_at hl 3 rfl) ?_
            have e_A24_12 : A24 0 12 = (A 0 12) := (hj23.2 12 rfl).trans e_A10_12
            refine va_get (D := (dC, dI)) (ci := 12) (v := .int (iI (A24 0 12))) (C := RX12) (T := TX12) (N := 85) hx hb hts hiX12 hown hK hP 0 wm0 rfl 12 (by decide) (hts _ (List.mem_cons_of_mem _ wlq_4_14)) (fun _ h9 => h9) rfl (dk_at dkX12_goesOn__4 9 rfl) ?_
            refine tp_i (y := iI (A 0 12)) (congrArg iI e_A24_12) ?_
            have a_A2_11 : A2 11 = A 11 := (hf4.1 11 (by decide) rfl)
            have a_A10_11 : A10 11 = A 11 := (hj9.1 11 (by decide) rfl).trans a_A2_11
            have a_A24_11 : A24 11 = A 11 := (hj23.1 11 (by decide) rfl).trans a_A10_11
            refine x_iald hx hb hK hP 11 1 wm11 rfl (by omega) (by decide) (dk_at dkX12_goesOn__4 10 rfl) (fun z34 hz34 => ?_)
            have rz34 : (0 : Int) ≤ z34 ∧ z34 ≤ 4 := by rw [hz34]; exact hI 11 _
            have gz34 := Hd.mk hz34
            have hz34 : z34 = A 11 ((A 0 12)).toNat := hz34.trans (congrFun a_A24_11 _)
            refine lv_icmp_ge (tgt := 234) hx hb (dk_at dkX12_goesOn__4 11 rfl) (by decide) (fun c35 => ?_) (fun c35 => ?_)
            · have c35 : z34 ≤ z22 := (i_le (rb rz34 (by decide) (by decide)) (rb f30 (by decide) (by decide))).mp c35
              exact RET _ _ _ _ _ ⟨hk2 _ ⟨0, 0 + 1, (u_d_X12_goesOn__2 ⟨gI33.out, ⟨f30, ⟨z34, gz34.out, (Or.inl ⟨c35, rfl⟩)⟩⟩⟩)⟩, hI, fr.trans (fr.trans (fr.trans (fr.rf) hf4 rfl rfl) hj9 rfl rfl) hj23 rfl rfl, (CI.fr (CI.fr (CI.fr hcCI hf4 rfl rfl) hj9 rfl rfl) hj23 rfl rfl), hc32, by omega⟩ hP hS (dk_at dkX12_goesOn__7 13 rfl)
            · have c35 : ¬ z34 ≤ z22 := mt (i_le (rb rz34 (by decide) (by decide)) (rb f30 (by decide) (by decide))).mpr c35
              refine lv_aload_n hx hb (dk_at dkX12_goesOn__4 12 rfl) rfl (lv_at hl 3 rfl) ?_
              refine lv_iload_n hx hb (dk_at dkX12_goesOn__4 13 rfl) rfl (lv_at hl 4 rfl) ?_
              refine x_callv (As := [.int (iI x1)]) (rest := []) ⟨hx, hb, hml, hown, hts⟩ (mc_X12_takes l dC dI cB cI cJ cZ cQ q _ x1 hI hx1) (cwV 1 hts (goodV wlq_7_11 wlq_7_12 wlq_7_13 wlq_0_8 wlq_6_41) rfl rfl rfl (by decide +kernel) ⟨Nat.le_of_ble_eq_true rfl, Nat.le_of_ble_eq_true rfl⟩) hK hDD hA0 hP hS 0 12 wm0 rfl rfl hl.1 (Nat.le_of_ble_eq_true rfl) (dk_at dkX12_goesOn__4 14 rfl) (fun A36 H locs hw37 hP hS => ?_)
              have ghw37 : q_X12_takes x1 A24 A36 := hw37
              obtain ⟨_, hI, hf38, hw37⟩ := hw37
              clear hw37
              refine lv_aload_n hx hb (dk_at dkX12_goesOn__4 15 rfl) rfl (lv_at hl 3 rfl) ?_
              have e_A2_71 : A2 0 71 = (A 0 71) := (hf4.2 71 rfl)
              have e_A10_71 : A10 0 71 = (A 0 71) := (hj9.2 71 rfl).trans e_A2_71
              have e_A24_71 : A24 0 71 = (A 0 71) := (hj23.2 71 rfl).trans e_A10_71
              have e_A36_71 : A36 0 71 = (A 0 71) := (hf38.2 71 rfl).trans e_A24_71
              refine va_get (D := (dC, dI)) (ci := 12) (v := .int (iI (A36 0 71))) (C := RX12) (T := TX12) (N := 85) hx hb hts hiX12 hown hK hP 0 wm0 rfl 71 (by decide) (hts _ (List.mem_cons_of_mem _ wlq_7_3)) (fun _ h9 => h9) rfl (dk_at dkX12_goesOn__5 0 rfl) ?_
              refine tp_i (y := iI (A 0 71)) (congrArg iI e_A36_71) ?_
              have r_A_0_71 : (-2147483648 : Int) ≤ (A 0 71) ∧ (A 0 71) ≤ 2147483647 := by rw [← e_A36_71]; exact hI 0 71
              refine lv_iload hx hb (dk_at dkX12_goesOn__5 1 rfl) (lv_at hl 0 rfl) ?_
              refine lv_ishr hx hb (dk_at dkX12_goesOn__5 2 rfl) ?_
              refine x_absE (fun z39 gz39 hz39 => ?_)
              refine lv_iconst (v := iI 1) hx hb (dk_at dkX12_goesOn__5 3 rfl) (by decide +kernel) ?_
              refine lv_iand hx hb (dk_at dkX12_goesOn__5 4 rfl) ?_
              refine x_andE (b := 1) (by omega) (fun z40 gz40 hz40 => ?_)
              have J228_42 : ∀ (A60 : St) (H : Heap) (locs : List Loc) (ls : Array Slot), (A 0 66 ≤ (A60 0 66)) → (QI A60) → (∀ (u : St), (∃ mm1 mm2 : Nat, (d_X12_goesOn__3 (fun z22' A24' => d_X12_goesOn__2 x1 z1 A u mm2 z22' A24') z22 u A60)) → r_X12_goesOn_ x1 A u) → IM A60 → fr [47, 48, 49] [66, 69] A36 A60 → va_P (dC, dI) vwCl (WM cI cJ cZ q A60) H → va_S AS s.heap H locs → lv_has ls 5 [(4, .int (iI z22)), (3, .int (iI z5)), (2, .int (iI (z1 + 1))), (0, .ref (q 0)), (1, .int (iI x1))] → W p l e (headSpec ws_mb_X12_goesOn_ ({ frames := 4, cells := 0, slots := 0, locals := 100 } : Room)).room s m [.ref (q 0), .int (iI x1)].toArray below meth c H locs 0 0 Q (F0 m 228 ls []) := by
                intro A60 H locs ls f61 hc62 hk3 hI hj59 hP hS hl
                have gI63 : Hd (IM A60) := Hd.mk hI
                refine lv_iinc (v := iI (z22 + 1)) (lv' := [(4, .int (iI (z22 + 1))), (3, .int (iI z5)), (2, .int (iI (z1 + 1))), (0, .ref (q 0)), (1, .int (iI x1))]) hx hb (dk_at dkX12_goesOn__7 11 rfl) hl (k := 0) rfl (i_inc (by omega)) (by decide) rfl (fun ls hl => ?_)
                refine lv_goto (tgt := 133) hx hb (dk_at dkX12_goesOn__7 12 rfl) (by decide) ?_
                have r_A60_0_66 : (0 : Int) ≤ (A60 0 66) ∧ (A60 0 66) ≤ 76832 := hI 0 66
                exact ih27 _ (by omega) (z22 + 1) _ _ _ _ (by omega) (by omega) (by omega) hc62 (fun uq ⟨mm1, mm2, hq⟩ => hk3 _ ⟨mm1, mm2, (u_d_X12_goesOn__3 ⟨gI63.out, hq⟩)⟩) rfl hI (fr.trans (fr.trans (fr.trans (fr.rf) hj23 rfl rfl) hf38 rfl rfl) hj59 rfl rfl) hP hS (lv_sub hl [0, 1, 2, 3, 4] rfl)
              refine lv_if_eq (tgt := 228) hx hb (dk_at dkX12_goesOn__5 5 rfl) (by decide) (fun c41 => ?_) (fun c41 => ?_)
              · have c41 : z40 = 0 := (i_eq0 (by omega)).mp c41
                have e_A36_66 : A36 0 66 = (A24 0 66) := (hf38.2 66 rfl)
                exact J228_42 _ _ _ _ (by omega) (QI.fr hc32 hf38 rfl rfl rfl) (fun uq ⟨mm1, mm2, hq⟩ => hk2 _ ⟨mm1, mm2 + 1, (u_d_X12_goesOn__2 ⟨gI33.out, ⟨f30, ⟨z34, gz34.out, (Or.inr ⟨c35, ⟨A36, ghw37, ⟨z39, gz39.out, ⟨z40, gz40.out, (Or.inl ⟨c41, hq⟩)⟩⟩⟩⟩)⟩⟩⟩)⟩) hI (fr.rf) hP hS (lv_sub hl [0, 1, 2, 3, 4] rfl)
              · have c41 : ¬ z40 = 0 := mt (i_eq0 (by omega)).mpr c41
                refine lv_aload_n hx hb (dk_at dkX12_goesOn__5 6 rfl) rfl (lv_at hl 3 rfl) ?_
                refine va_get (D := (dC, dI)) (ci := 12) (v := .ref (q 49)) (C := RX12) (T := TX12) (N := 85) hx hb hts hiX12 hown hK hP 0 wm0 rfl 68 (by decide) (hts _ (List.mem_cons_of_mem _ wlq_6_39)) (fun _ h9 => h9) rfl (dk_at dkX12_goesOn__5 7 rfl) ?_
                refine lv_iload hx hb (dk_at dkX12_goesOn__5 8 rfl) (lv_at hl 0 rfl) ?_
                refine x_iald hx hb hK hP 49 1 wm49 rfl (by omega) (by decide) (dk_at dkX12_goesOn__5 9 rfl) (fun z43 hz43 => ?_)
                have rz43 : (0 : Int) ≤ z43 ∧ z43 ≤ 6 := by rw [hz43]; exact hI 49 _
                have gz43 := Hd.mk hz43
                have hz43 : z43 = A36 49 (z22).toNat := hz43
                refine lv_if_eq (tgt := 228) hx hb (dk_at dkX12_goesOn__5 10 rfl) (by decide) (fun c44 => ?_) (fun c44 => ?_)
                · have c44 : z43 = 0 := (i_eq0 (rb rz43 (by decide) (by decide))).mp c44
                  have e_A36_66 : A36 0 66 = (A24 0 66) := (hf38.2 66 rfl)
                  exact J228_42 _ _ _ _ (by omega) (QI.fr hc32 hf38 rfl rfl rfl) (fun uq ⟨mm1, mm2, hq⟩ => hk2 _ ⟨mm1, mm2 + 1, (u_d_X12_goesOn__2 ⟨gI33.out, ⟨f30, ⟨z34, gz34.out, (Or.inr ⟨c35, ⟨A36, ghw37, ⟨z39, gz39.out, ⟨z40, gz40.out, (Or.inr ⟨c41, ⟨z43, gz43.out, (Or.inl ⟨c44, hq⟩)⟩⟩)⟩⟩⟩⟩)⟩⟩⟩)⟩) hI (fr.rf) hP hS (lv_sub hl [0, 1, 2, 3, 4] rfl)
                · have c44 : ¬ z43 = 0 := mt (i_eq0 (rb rz43 (by decide) (by decide))).mpr c44
                  refine lv_aload_n hx hb (dk_at dkX12_goesOn__5 11 rfl) rfl (lv_at hl 3 rfl) ?_
                  refine lv_aload_n hx hb (dk_at dkX12_goesOn__5 12 rfl) rfl (lv_at hl 3 rfl) ?_
                  refine va_get (D := (dC, dI)) (ci := 12) (v := .int (iI (A36 0 67))) (C := RX12) (T := TX12) (N := 85) hx hb hts hiX12 hown hK hP 0 wm0 rfl 67 (by decide) (hts _ (List.mem_cons_of_mem _ wlq_6_38)) (fun _ h9 => h9) rfl (dk_at dkX12_goesOn__5 13 rfl) ?_
                  have r_A36_0_67 : (0 : Int) ≤ (A36 0 67) ∧ (A36 0 67) ≤ 7 := hI 0 67
                  refine lv_aload_n hx hb (dk_at dkX12_goesOn__5 14 rfl) rfl (lv_at hl 3 rfl) ?_
                  refine va_get (D := (dC, dI)) (ci := 12) (v := .ref (q 15)) (C := RX12) (T := TX12) (N := 85) hx hb hts hiX12 hown hK hP 0 wm0 rfl 26 (by decide) (hts _ (List.mem_cons_of_mem _ wlq_3_7)) (fun _ h9 => h9) rfl (dk_at dkX12_goesOn__5 15 rfl) ?_
                  refine lv_bipush (v := iI 10) hx hb (dk_at dkX12_goesOn__6 0 rfl) (by decide +kernel) ?_
                  refine lv_aload_n hx hb (dk_at dkX12_goesOn__6 1 rfl) rfl (lv_at hl 3 rfl) ?_
                  refine lv_iload hx hb (dk_at dkX12_goesOn__6 2 rfl) (lv_at hl 0 rfl) ?_
                  have e_A36_12 : A36 0 12 = (A 0 12) := (hf38.2 12 rfl).trans e_A24_12
                  refine x_calli (As := [.int (iI z22)]) (rest := [.int (iI 10), .ref (q 15), .int (iI (A36 0 67)), .ref (q 0)]) ⟨hx, hb, hml, hown, hts⟩ (mc_X12_key4 l dC dI cB cI cJ cZ cQ q _ z22 hI (by omega)) (cwV 1 hts (goodV wlq_4_44 wlq_4_45 wlq_4_46 wlq_0_8 wlq_4_41) rfl rfl rfl (by decide +kernel) ⟨Nat.le_of_ble_eq_true rfl, Nat.le_of_ble_eq_true rfl⟩) hK hDD hA0 hP hS 0 12 wm0 rfl rfl hl.1 (Nat.le_of_ble_eq_true rfl) (dk_at dkX12_goesOn__6 3 rfl) (fun z45 A46 H locs hw47 hP hS => ?_)
                  obtain ⟨rfl, hw47⟩ := hw47
                  have ghw47 : q_X12_key4 z22 A36 z45 := hw47
                  have hw47 := hw47.2
                  refine tp_i (y := iI (4 * (A 0 12) + z22)) (congrArg iI (show z45 = 4 * (A 0 12) + z22 by omega)) ?_
                  clear hw47
                  refine x_mulv (v := 40 * (A 0 12) + 10 * z22) hx hb (dk_at dkX12_goesOn__6 4 rfl) (by omega) ?_
                  refine lv_aload_n hx hb (dk_at dkX12_goesOn__6 5 rfl) rfl (lv_at hl 3 rfl) ?_
                  refine va_get (D := (dC, dI)) (ci := 12) (v := .ref (q 49)) (C := RX12) (T := TX12) (N := 85) hx hb hts hiX12 hown hK hP 0 wm0 rfl 68 (by decide) (hts _ (List.mem_cons_of_mem _ wlq_6_39)) (fun _ h9 => h9) rfl (dk_at dkX12_goesOn__6 6 rfl) ?_
                  refine lv_iload hx hb (dk_at dkX12_goesOn__6 7 rfl) (lv_at hl 0 rfl) ?_
                  refine x_iald hx hb hK hP 49 1 wm49 rfl (by omega) (by decide) (dk_at dkX12_goesOn__6 8 rfl) (fun z48 hz48 => ?_)
                  have rz48 : (0 : Int) ≤ z48 ∧ z48 ≤ 6 := by rw [hz48]; exact hI 49 _
                  have gz48 := Hd.mk hz48
                  have hz48 : z48 = A36 49 (z22).toNat := hz48
                  have ez48 : z48 = z43 := hz48.trans hz43.symm
                  refine x_addv (v := 40 * (A 0 12) + 10 * z22 + z48) hx hb (dk_at dkX12_goesOn__6 9 rfl) (by omega) ?_
                  refine lv_iconst (v := iI 1) hx hb (dk_at dkX12_goesOn__6 10 rfl) (by decide +kernel) ?_
                  refine x_subv (v := 40 * (A 0 12) + 10 * z22 + z48 - 1) hx hb (dk_at dkX12_goesOn__6 11 rfl) (by omega) ?_
                  have a_A2_15 : A2 15 = A 15 := (hf4.1 15 (by decide) rfl)
                  have a_A10_15 : A10 15 = A 15 := (hj9.1 15 (by decide) rfl).trans a_A2_15
                  have a_A24_15 : A24 15 = A 15 := (hj23.1 15 (by decide) rfl).trans a_A10_15
                  have a_A36_15 : A36 15 = A 15 := (hf38.1 15 (by decide) rfl).trans a_A24_15
                  refine x_iald hx hb hK hP 15 1 wm15 rfl (by omega) (by decide) (dk_at dkX12_goesOn__6 12 rfl) (fun z49 hz49 => ?_)
                  have rz49 : (0 : Int) ≤ z49 ∧ z49 ≤ 9 := by rw [hz49]; exact hI 15 _
                  have gz49 := Hd.mk hz49
                  have hz49 : z49 = A 15 (40 * (A 0 12) + 10 * z22 + z48 - 1).toNat := hz49.trans (congrFun a_A36_15 _)
                  refine x_calli (As := [.int (iI (A36 0 67)), .int (iI z49)]) (rest := []) ⟨hx, hb, hml, hown, hts⟩ (mc_X12_isAt l dC dI cB cI cJ cZ cQ q _ (A36 0 67) z49 hI (rb r_A36_0_67 (by decide) (by decide)) rz49) (cwV 2 hts (goodV wlq_5_38 wlq_5_39 wlq_5_40 wlq_0_8 wlq_5_28) rfl rfl rfl (by decide +kernel) ⟨Nat.le_of_ble_eq_true rfl, Nat.le_of_ble_eq_true rfl⟩) hK hDD hA0 hP hS 0 12 wm0 rfl rfl hl.1 (Nat.le_of_ble_eq_true rfl) (dk_at dkX12_goesOn__6 13 rfl) (fun z50 A51 H locs hw52 hP hS => ?_)
                  obtain ⟨rfl, hw52⟩ := hw52
                  have ghw52 : q_X12_isAt (A36 0 67) z49 A36 z50 := hw52
                  have hw52 := hw52.2
                  refine lv_if_ne (tgt := 212) hx hb (dk_at dkX12_goesOn__6 14 rfl) (by decide) (fun c53 => ?_) (fun c53 => ?_)
                  · have c53 : ¬ z50 = 0 := mt (i_eq0 (rb hw52 (by decide) (by decide))).mpr c53
                    refine lv_aload_n hx hb (dk_at dkX12_goesOn__7 0 rfl) rfl (lv_at hl 3 rfl) ?_
                    refine va_get (D := (dC, dI)) (ci := 12) (v := .ref (q 49)) (C := RX12) (T := TX12) (N := 85) hx hb hts hiX12 hown hK hP 0 wm0 rfl 68 (by decide) (hts _ (List.mem_cons_of_mem _ wlq_6_39)) (fun _ h9 => h9) rfl (dk_at dkX12_goesOn__7 1 rfl) ?_
                    refine lv_iload hx hb (dk_at dkX12_goesOn__7 2 rfl) (lv_at hl 0 rfl) ?_
                    refine lv_dup2_11 hx hb (dk_at dkX12_goesOn__7 3 rfl) rfl rfl ?_
                    refine x_iald hx hb hK hP 49 1 wm49 rfl (by omega) (by decide) (dk_at dkX12_goesOn__7 4 rfl) (fun z54 hz54 => ?_)
                    have rz54 : (0 : Int) ≤ z54 ∧ z54 ≤ 6 := by rw [hz54]; exact hI 49 _
                    have gz54 := Hd.mk hz54
                    have hz54 : z54 = A36 49 (z22).toNat := hz54
                    have ez54 : z54 = z43 := hz54.trans hz43.symm
                    refine lv_iconst (v := iI 1) hx hb (dk_at dkX12_goesOn__7 5 rfl) (by decide +kernel) ?_
                    refine x_subv (v := z54 - 1) hx hb (dk_at dkX12_goesOn__7 6 rfl) (by omega) ?_
                    refine x_iast hx hb hK hP hDD hS 49 1 wm49 rfl (by omega) (by decide) (dk_at dkX12_goesOn__7 7 rfl) ws49 (fun H locs hP hS => ?_)
                    have hI := hI.st (j := 49) (i := (z22).toNat) (v := z54 - 1) (show (0 : Int) ≤ z54 - 1 ∧ z54 - 1 ≤ 6 from (by omega))
                    refine lv_aload_n hx hb (dk_at dkX12_goesOn__7 8 rfl) rfl (lv_at hl 3 rfl) ?_
                    refine lv_iload_n hx hb (dk_at dkX12_goesOn__7 9 rfl) rfl (lv_at hl 2 rfl) ?_
                    obtain ⟨A55, hA55⟩ : ∃ A55 : St, A55 = (stA A36 49 (z22).toNat (z54 - 1)) := ⟨_, rfl⟩
                    rw [← hA55] at hP hI
                    have e_A36_66 : A36 0 66 = (A24 0 66) := (hf38.2 66 rfl)
                    have e_A55_66 : A55 0 66 = (A24 0 66) := by rw [hA55]; exact e_A36_66
                    refine x_callv (As := [.int (iI (z1 + 1))]) (rest := []) ⟨hx, hb, hml, hown, hts⟩ (mc_X12_comes l dC dI cB cI cJ cZ cQ q _ (z1 + 1) hI (by omega) (by exact (QI.fr (QI.fr hc32 hf38 rfl rfl rfl) (fr_def hA55 (fr.st (fr.rf (M := [49]) (N := [])) (by decide) rfl)) rfl rfl rfl)) (by omega)) (cwV 1 hts (goodV wlq_7_4 wlq_7_5 wlq_7_6 wlq_0_8 wlq_6_50) rfl rfl rfl (by decide +kernel) ⟨Nat.le_of_ble_eq_true rfl, Nat.le_of_ble_eq_true rfl⟩) hK hDD hA0 hP hS 0 12 wm0 rfl rfl hl.1 (Nat.le_of_ble_eq_true rfl) (dk_at dkX12_goesOn__7 10 rfl) (fun A56 H locs hw57 hP hS => ?_)
                    have ghw57 : q_X12_comes (z1 + 1) A55 A56 := hw57
                    obtain ⟨_, hI, hf58, hw57⟩ := hw57
                    have r_A56_0_66 : (0 : Int) ≤ (A56 0 66) ∧ (A56 0 66) ≤ 76832 := hI 0 66
                    exact J228_42 _ _ _ _ (by omega) hw57.1 (fun uq ⟨mm1, mm2, hq⟩ => hk2 _ ⟨mm1, mm2 + 1, (u_d_X12_goesOn__2 ⟨gI33.out, ⟨f30, ⟨z34, gz34.out, (Or.inr ⟨c35, ⟨A36, ghw37, ⟨z39, gz39.out, ⟨z40, gz40.out, (Or.inr ⟨c41, ⟨z43, gz43.out, (Or.inr ⟨c44, ⟨z45, ghw47, ⟨z48, gz48.out, ⟨z49, gz49.out, ⟨z50, ghw52, (Or.inl ⟨c53, ⟨z54, gz54.out, ⟨A55, hA55, ⟨A56, ghw57, hq⟩⟩⟩⟩)⟩⟩⟩⟩⟩)⟩⟩)⟩⟩⟩⟩)⟩⟩⟩)⟩) hI (fr.trans (fr_def hA55 (fr.st (fr.rf) (by decide) rfl)) hf58 rfl rfl) hP hS (lv_sub hl [0, 1, 2, 3, 4] rfl)
                  · have c53 : z50 = 0 := (i_eq0 (rb hw52 (by decide) (by decide))).mp c53
                    refine lv_goto (tgt := 228) hx hb (dk_at dkX12_goesOn__6 15 rfl) (by decide) ?_
                    have e_A36_66 : A36 0 66 = (A24 0 66) := (hf38.2 66 rfl)
                    exact J228_42 _ _ _ _ (by omega) (QI.fr hc32 hf38 rfl rfl rfl) (fun uq ⟨mm1, mm2, hq⟩ => hk2 _ ⟨mm1, mm2 + 1, (u_d_X12_goesOn__2 ⟨gI33.out, ⟨f30, ⟨z34, gz34.out, (Or.inr ⟨c35, ⟨A36, ghw37, ⟨z39, gz39.out, ⟨z40, gz40.out, (Or.inr ⟨c41, ⟨z43, gz43.out, (Or.inr ⟨c44, ⟨z45, ghw47, ⟨z48, gz48.out, ⟨z49, gz49.out, ⟨z50, ghw52, (Or.inr ⟨c53, hq⟩)⟩⟩⟩⟩⟩)⟩⟩)⟩⟩⟩⟩)⟩⟩⟩)⟩) hI (fr.rf) hP hS (lv_sub hl [0, 1, 2, 3, 4] rfl)
        exact L133_26 _ 0 _ _ _ _ (by omega) (by omega) (by omega) hc18 (fun uq ⟨mm1, mm2, hq⟩ => hk1 _ ⟨mm1 + 1, (u_d_X12_goesOn__1 ⟨gI19.out, ⟨f16, ⟨z20, gz20.out, (Or.inl ⟨c21, ⟨mm2, hq⟩⟩)⟩⟩⟩)⟩) rfl hI (fr.rf) hP hS (lv_sub hl [0, 1, 2, 3, 4] rfl)
      · have c21 : ¬ z20 ≤ z8 := mt (i_le (rb rz20 (by decide) (by decide)) (rb f16 (by decide) (by decide))).mpr c21
        refine lv_aload_n hx hb (dk_at dkX12_goesOn__1 6 rfl) rfl (lv_at hl 3 rfl) ?_
        refine lv_iload_n hx hb (dk_at dkX12_goesOn__1 7 rfl) rfl (lv_at hl 4 rfl) ?_
        refine x_callv (As := [.int (iI x1)]) (rest := []) ⟨hx, hb, hml, hown, hts⟩ (mc_X12_takes l dC dI cB cI cJ cZ cQ q _ x1 hI hx1) (cwV 1 hts (goodV wlq_7_11 wlq_7_12 wlq_7_13 wlq_0_8 wlq_6_41) rfl rfl rfl (by decide +kernel) ⟨Nat.le_of_ble_eq_true rfl, Nat.le_of_ble_eq_true rfl⟩) hK hDD hA0 hP hS 0 12 wm0 rfl rfl hl.1 (Nat.le_of_ble_eq_true rfl) (dk_at dkX12_goesOn__1 8 rfl) (fun A64 H locs hw65 hP hS => ?_)
        have ghw65 : q_X12_takes x1 A10 A64 := hw65
        obtain ⟨_, hI, hf66, hw65⟩ := hw65
        clear hw65
        refine lv_aload_n hx hb (dk_at dkX12_goesOn__1 9 rfl) rfl (lv_at hl 3 rfl) ?_
        refine va_get (D := (dC, dI)) (ci := 12) (v := .ref (q 8)) (C := RX12) (T := TX12) (N := 85) hx hb hts hiX12 hown hK hP 0 wm0 rfl 19 (by decide) (hts _ (List.mem_cons_of_mem _ wlq_2_41)) (fun _ h9 => h9) rfl (dk_at dkX12_goesOn__1 10 rfl) ?_
        refine lv_aload_n hx hb (dk_at dkX12_goesOn__1 11 rfl) rfl (lv_at hl 3 rfl) ?_
        refine lv_iload hx hb (dk_at dkX12_goesOn__1 12 rfl) (lv_at hl 0 rfl) ?_
        have e_A64_12 : A64 0 12 = (A 0 12) := (hf66.2 12 rfl).trans e_A10_12
        refine x_calli (As := [.int (iI z8)]) (rest := [.ref (q 8)]) ⟨hx, hb, hml, hown, hts⟩ (mc_X12_door10 l dC dI cB cI cJ cZ cQ q _ z8 hI (by omega)) (cwV 1 hts (goodV wlq_4_49 wlq_4_50 wlq_4_51 wlq_0_8 wlq_4_42) rfl rfl rfl (by decide +kernel) ⟨Nat.le_of_ble_eq_true rfl, Nat.le_of_ble_eq_true rfl⟩) hK hDD hA0 hP hS 0 12 wm0 rfl rfl hl.1 (Nat.le_of_ble_eq_true rfl) (dk_at dkX12_goesOn__1 13 rfl) (fun z67 A68 H locs hw69 hP hS => ?_)
        obtain ⟨rfl, hw69⟩ := hw69
        have ghw69 : q_X12_door10 z8 A64 z67 := hw69
        have hw69 := hw69.2
        refine tp_i (y := iI (10 * (A 0 12) + z8)) (congrArg iI (show z67 = 10 * (A 0 12) + z8 by omega)) ?_
        clear hw69
        have a_A2_8 : A2 8 = A 8 := (hf4.1 8 (by decide) rfl)
        have a_A10_8 : A10 8 = A 8 := (hj9.1 8 (by decide) rfl).trans a_A2_8
        have a_A64_8 : A64 8 = A 8 := (hf66.1 8 (by decide) rfl).trans a_A10_8
        refine x_zald hx hb hK hP 8 3 wm8 rfl (by omega) (by decide) (dk_at dkX12_goesOn__1 14 rfl) (fun z70 hz70 => ?_)
        have rz70 : (0 : Int) ≤ z70 ∧ z70 ≤ 1 := by rw [hz70]; exact hI 8 _
        have gz70 := Hd.mk hz70
        have hz70 : z70 = A 8 (10 * (A 0 12) + z8).toNat := hz70.trans (congrFun a_A64_8 _)
        have J124_72 : ∀ (A98 : St) (H : Heap) (locs : List Loc) (ls : Array Slot), (A 0 66 ≤ (A98 0 66)) → (QI A98) → (∀ (u : St), (∃ mm1 : Nat, (d_X12_goesOn__4 (fun z8' A10' => d_X12_goesOn__1 x1 z1 z5 A u mm1 z8' A10') z8 u A98)) → r_X12_goesOn_ x1 A u) → IM A98 → fr [42, 43, 47, 48] [66, 67, 69] A64 A98 → va_P (dC, dI) vwCl (WM cI cJ cZ q A98) H → va_S AS s.heap H locs → lv_has ls 5 [(4, .int (iI z8)), (3, .int (iI z5)), (2, .int (iI (z1 + 1))), (0, .ref (q 0)), (1, .int (iI x1))] → W p l e (headSpec ws_mb_X12_goesOn_ ({ frames := 4, cells := 0, slots := 0, locals := 100 } : Room)).room s m [.ref (q 0), .int (iI x1)].toArray below meth c H locs 0 0 Q (F0 m 124 ls []) := by
          intro A98 H locs ls f99 hc100 hk4 hI hj97 hP hS hl
          have gI101 : Hd (IM A98) := Hd.mk hI
          refine lv_iinc (v := iI (z8 + 1)) (lv' := [(4, .int (iI (z8 + 1))), (3, .int (iI z5)), (2, .int (iI (z1 + 1))), (0, .ref (q 0)), (1, .int (iI x1))]) hx hb (dk_at dkX12_goesOn__4 1 rfl) hl (k := 0) rfl (i_inc (by omega)) (by decide) rfl (fun ls hl => ?_)
          refine lv_goto (tgt := 22) hx hb (dk_at dkX12_goesOn__4 2 rfl) (by decide) ?_
          have r_A98_0_66 : (0 : Int) ≤ (A98 0 66) ∧ (A98 0 66) ≤ 76832 := hI 0 66
          exact ih13 _ (by omega) (z8 + 1) _ _ _ _ (by omega) (by omega) (by omega) hc100 (fun uq ⟨mm1, hq⟩ => hk4 _ ⟨mm1, (u_d_X12_goesOn__4 ⟨gI101.out, hq⟩)⟩) rfl hI (fr.trans (fr.trans (fr.trans (fr.rf) hj9 rfl rfl) hf66 rfl rfl) hj97 rfl rfl) hP hS (lv_sub hl [0, 1, 2, 3, 4] rfl)
        refine lv_if_ne (tgt := 124) hx hb (dk_at dkX12_goesOn__1 15 rfl) (by decide) (fun c71 => ?_) (fun c71 => ?_)
        · have c71 : ¬ z70 = 0 := mt (i_eq0 (rb rz70 (by decide) (by decide))).mpr c71
          have e_A64_66 : A64 0 66 = (A10 0 66) := (hf66.2 66 rfl)
          exact J124_72 _ _ _ _ (by omega) (QI.fr hc18 hf66 rfl rfl rfl) (fun uq ⟨mm1, hq⟩ => hk1 _ ⟨mm1 + 1, (u_d_X12_goesOn__1 ⟨gI19.out, ⟨f16, ⟨z20, gz20.out, (Or.inr ⟨c21, ⟨A64, ghw65, ⟨z67, ghw69, ⟨z70, gz70.out, (Or.inl ⟨c71, hq⟩)⟩⟩⟩⟩)⟩⟩⟩)⟩) hI (fr.rf) hP hS (lv_sub hl [0, 1, 2, 3, 4] rfl)
        · have c71 : z70 = 0 := (i_eq0 (rb rz70 (by decide) (by decide))).mp c71
          refine lv_aload_n hx hb (dk_at dkX12_goesOn__2 0 rfl) rfl (lv_at hl 3 rfl) ?_
          refine lv_aload_n hx hb (dk_at dkX12_goesOn__2 1 rfl) rfl (lv_at hl 3 rfl) ?_
          refine va_get (D := (dC, dI)) (ci := 12) (v := .int (iI (A64 0 67))) (C := RX12) (T := TX12) (N := 85) hx hb hts hiX12 hown hK hP 0 wm0 rfl 67 (by decide) (hts _ (List.mem_cons_of_mem _ wlq_6_38)) (fun _ h9 => h9) rfl (dk_at dkX12_goesOn__2 2 rfl) ?_
          have r_A64_0_67 : (0 : Int) ≤ (A64 0 67) ∧ (A64 0 67) ≤ 7 := hI 0 67
          refine lv_iload hx hb (dk_at dkX12_goesOn__2 3 rfl) (lv_at hl 0 rfl) ?_
          refine x_calli (As := [.int (iI (A64 0 67)), .int (iI z8)]) (rest := []) ⟨hx, hb, hml, hown, hts⟩ (mc_X12_isAt l dC dI cB cI cJ cZ cQ q _ (A64 0 67) z8 hI (rb r_A64_0_67 (by decide) (by decide)) (by omega)) (cwV 2 hts (goodV wlq_5_38 wlq_5_39 wlq_5_40 wlq_0_8 wlq_5_28) rfl rfl rfl (by decide +kernel) ⟨Nat.le_of_ble_eq_true rfl, Nat.le_of_ble_eq_true rfl⟩) hK hDD hA0 hP hS 0 12 wm0 rfl rfl hl.1 (Nat.le_of_ble_eq_true rfl) (dk_at dkX12_goesOn__2 4 rfl) (fun z73 A74 H locs hw75 hP hS => ?_)
          obtain ⟨rfl, hw75⟩ := hw75
          have ghw75 : q_X12_isAt (A64 0 67) z8 A64 z73 := hw75
          have hw75 := hw75.2
          refine lv_if_eq (tgt := 124) hx hb (dk_at dkX12_goesOn__2 5 rfl) (by decide) (fun c76 => ?_) (fun c76 => ?_)
          · have c76 : z73 = 0 := (i_eq0 (rb hw75 (by decide) (by decide))).mp c76
            have e_A64_66 : A64 0 66 = (A10 0 66) := (hf66.2 66 rfl)
            exact J124_72 _ _ _ _ (by omega) (QI.fr hc18 hf66 rfl rfl rfl) (fun uq ⟨mm1, hq⟩ => hk1 _ ⟨mm1 + 1, (u_d_X12_goesOn__1 ⟨gI19.out, ⟨f16, ⟨z20, gz20.out, (Or.inr ⟨c21, ⟨A64, ghw65, ⟨z67, ghw69, ⟨z70, gz70.out, (Or.inr ⟨c71, ⟨z73, ghw75, (Or.inl ⟨c76, hq⟩)⟩⟩)⟩⟩⟩⟩)⟩⟩⟩)⟩) hI (fr.rf) hP hS (lv_sub hl [0, 1, 2, 3, 4] rfl)
          · have c76 : ¬ z73 = 0 := mt (i_eq0 (rb hw75 (by decide) (by decide))).mpr c76
            refine lv_aload_n hx hb (dk_at dkX12_goesOn__2 6 rfl) rfl (lv_at hl 3 rfl) ?_
            refine lv_iload hx hb (dk_at dkX12_goesOn__2 7 rfl) (lv_at hl 0 rfl) ?_
            refine x_calli (As := [.int (iI z8)]) (rest := []) ⟨hx, hb, hml, hown, hts⟩ (mc_X12_isClosed l dC dI cB cI cJ cZ cQ q _ z8 hI (by omega)) (cwV 1 hts (goodV wlq_6_44 wlq_6_45 wlq_6_46 wlq_0_8 wlq_6_42) rfl rfl rfl (by decide +kernel) ⟨Nat.le_of_ble_eq_true rfl, Nat.le_of_ble_eq_true rfl⟩) hK hDD hA0 hP hS 0 12 wm0 rfl rfl hl.1 (Nat.le_of_ble_eq_true rfl) (dk_at dkX12_goesOn__2 8 rfl) (fun z77 A78 H locs hw79 hP hS => ?_)
            obtain ⟨rfl, hw79⟩ := hw79
            have ghw79 : q_X12_isClosed z8 A64 z77 := hw79
            have hw79 := hw79.2
            refine lv_if_ne (tgt := 124) hx hb (dk_at dkX12_goesOn__2 9 rfl) (by decide) (fun c80 => ?_) (fun c80 => ?_)
            · have c80 : ¬ z77 = 0 := mt (i_eq0 (rb hw79 (by decide) (by decide))).mpr c80
              have e_A64_66 : A64 0 66 = (A10 0 66) := (hf66.2 66 rfl)
              exact J124_72 _ _ _ _ (by omega) (QI.fr hc18 hf66 rfl rfl rfl) (fun uq ⟨mm1, hq⟩ => hk1 _ ⟨mm1 + 1, (u_d_X12_goesOn__1 ⟨gI19.out, ⟨f16, ⟨z20, gz20.out, (Or.inr ⟨c21, ⟨A64, ghw65, ⟨z67, ghw69, ⟨z70, gz70.out, (Or.inr ⟨c71, ⟨z73, ghw75, (Or.inr ⟨c76, ⟨z77, ghw79, (Or.inl ⟨c80, hq⟩)⟩⟩)⟩⟩)⟩⟩⟩⟩)⟩⟩⟩)⟩) hI (fr.rf) hP hS (lv_sub hl [0, 1, 2, 3, 4] rfl)
            · have c80 : z77 = 0 := (i_eq0 (rb hw79 (by decide) (by decide))).mp c80
              refine lv_aload_n hx hb (dk_at dkX12_goesOn__2 10 rfl) rfl (lv_at hl 3 rfl) ?_
              refine lv_iload hx hb (dk_at dkX12_goesOn__2 11 rfl) (lv_at hl 0 rfl) ?_
              refine lv_aload_n hx hb (dk_at dkX12_goesOn__2 12 rfl) rfl (lv_at hl 3 rfl) ?_
              have e_A2_70 : A2 0 70 = (A 0 70) := (hf4.2 70 rfl)
              have e_A10_70 : A10 0 70 = (A 0 70) := (hj9.2 70 rfl).trans e_A2_70
              have e_A64_70 : A64 0 70 = (A 0 70) := (hf66.2 70 rfl).trans e_A10_70
              refine va_get (D := (dC, dI)) (ci := 12) (v := .int (iI (A64 0 70))) (C := RX12) (T := TX12) (N := 85) hx hb hts hiX12 hown hK hP 0 wm0 rfl 70 (by decide) (hts _ (List.mem_cons_of_mem _ wlq_7_2)) (fun _ h9 => h9) rfl (dk_at dkX12_goesOn__2 13 rfl) ?_
              refine tp_i (y := iI (A 0 70)) (congrArg iI e_A64_70) ?_
              have r_A_0_70 : (0 : Int) ≤ (A 0 70) ∧ (A 0 70) ≤ 2 := by rw [← e_A64_70]; exact hI 0 70
              refine lv_aload_n hx hb (dk_at dkX12_goesOn__2 14 rfl) rfl (lv_at hl 3 rfl) ?_
              refine va_get (D := (dC, dI)) (ci := 12) (v := .int (iI (A64 0 67))) (C := RX12) (T := TX12) (N := 85) hx hb hts hiX12 hown hK hP 0 wm0 rfl 67 (by decide) (hts _ (List.mem_cons_of_mem _ wlq_6_38)) (fun _ h9 => h9) rfl (dk_at dkX12_goesOn__2 15 rfl) ?_
              refine lv_aload_n hx hb (dk_at dkX12_goesOn__3 0 rfl) rfl (lv_at hl 3 rfl) ?_
              have e_A2_71 : A2 0 71 = (A 0 71) := (hf4.2 71 rfl)
              have e_A10_71 : A10 0 71 = (A 0 71) := (hj9.2 71 rfl).trans e_A2_71
              have e_A64_71 : A64 0 71 = (A 0 71) := (hf66.2 71 rfl).trans e_A10_71
              refine va_get (D := (dC, dI)) (ci := 12) (v := .int (iI (A64 0 71))) (C := RX12) (T := TX12) (N := 85) hx hb hts hiX12 hown hK hP 0 wm0 rfl 71 (by decide) (hts _ (List.mem_cons_of_mem _ wlq_7_3)) (fun _ h9 => h9) rfl (dk_at dkX12_goesOn__3 1 rfl) ?_
              refine tp_i (y := iI (A 0 71)) (congrArg iI e_A64_71) ?_
              have r_A_0_71 : (-2147483648 : Int) ≤ (A 0 71) ∧ (A 0 71) ≤ 2147483647 := by rw [← e_A64_71]; exact hI 0 71
              refine x_callSi (As := [.int (iI (A 0 71))]) (rest := [.int (iI (A64 0 67)), .int (iI (A 0 70)), .int (iI z8), .ref (q 0)]) ⟨hx, hb, hml, hown, hts⟩ (mc_X12_bitsOf l dC dI cB cI cJ cZ cQ q _ (A 0 71) hI r_A_0_71) (va_cwS 1 hts (goodS wlq_5_44 wlq_5_45 wlq_0_8 wlq_5_27) rfl rfl rfl (by decide +kernel) ⟨Nat.le_of_ble_eq_true rfl, Nat.le_of_ble_eq_true rfl⟩) hK hDD hA0 hP hS rfl hl.1 (Nat.le_of_ble_eq_true rfl) (dk_at dkX12_goesOn__3 2 rfl) (fun z81 A82 H locs hw83 hP hS => ?_)
              obtain ⟨rfl, hw83⟩ := hw83
              have ghw83 : q_X12_bitsOf (A 0 71) A64 z81 := hw83
              have hw83 := hw83.2
              refine lv_iload_n hx hb (dk_at dkX12_goesOn__3 3 rfl) rfl (lv_at hl 1 rfl) ?_
              refine x_calli (As := [.int (iI z8), .int (iI (A 0 70)), .int (iI (A64 0 67)), .int (iI z81), .int (iI z5)]) (rest := []) ⟨hx, hb, hml, hown, hts⟩ (mb_X12_isBarred l dC dI cB cI cJ cZ cQ q _ z8 (A 0 70) (A64 0 67) z81 z5 hI (rb f16 (by decide) (by decide)) (rb r_A_0_70 (by decide) (by decide)) (rb r_A64_0_67 (by decide) (by decide)) hw83 hw7 (CI.fr (CI.fr (CI.fr hcCI hf4 rfl rfl) hj9 rfl rfl) hf66 rfl rfl)) (cwV 5 hts (goodV wlq_5_46 wlq_5_47 wlq_5_48 wlq_0_8 wlq_5_29) rfl rfl rfl (by decide +kernel) ⟨Nat.le_of_ble_eq_true rfl, Nat.le_of_ble_eq_true rfl⟩) hK hDD hA0 hP hS 0 12 wm0 rfl rfl hl.1 (Nat.le_of_ble_eq_true rfl) (dk_at dkX12_goesOn__3 4 rfl) (fun z84 A85 H locs hw86 hP hS => ?_)
              have ghw86 : q_X12_isBarred z8 (A 0 70) (A64 0 67) z81 z5 A64 z84 A85 := hw86
              obtain ⟨_, hI, hf87, hw86⟩ := hw86
              obtain ⟨hc88, hw86⟩ := hw86
              refine lv_if_eq (tgt := 105) hx hb (dk_at dkX12_goesOn__3 5 rfl) (by decide) (fun c89 => ?_) (fun c89 => ?_)
              · have c89 : z84 = 0 := (i_eq0 (rb hw86 (by decide) (by decide))).mp c89
                refine lv_aload_n hx hb (dk_at dkX12_goesOn__3 7 rfl) rfl (lv_at hl 3 rfl) ?_
                refine lv_aload_n hx hb (dk_at dkX12_goesOn__3 8 rfl) rfl (lv_at hl 3 rfl) ?_
                refine lv_iload hx hb (dk_at dkX12_goesOn__3 9 rfl) (lv_at hl 0 rfl) ?_
                refine lv_aload_n hx hb (dk_at dkX12_goesOn__3 10 rfl) rfl (lv_at hl 3 rfl) ?_
                have e_A85_67 : A85 0 67 = (A64 0 67) := (hf87.2 67 rfl)
                refine va_get (D := (dC, dI)) (ci := 12) (v := .int (iI (A85 0 67))) (C := RX12) (T := TX12) (N := 85) hx hb hts hiX12 hown hK hP 0 wm0 rfl 67 (by decide) (hts _ (List.mem_cons_of_mem _ wlq_6_38)) (fun _ h9 => h9) rfl (dk_at dkX12_goesOn__3 11 rfl) ?_
                refine tp_i (y := iI (A64 0 67)) (congrArg iI e_A85_67) ?_
                refine x_calli (As := [.int (iI z8), .int (iI (A64 0 67))]) (rest := [.ref (q 0)]) ⟨hx, hb, hml, hown, hts⟩ (mc_X12_otherSide l dC dI cB cI cJ cZ cQ q _ z8 (A64 0 67) hI (by omega) (rb r_A64_0_67 (by decide) (by decide))) (cwV 2 hts (goodV wlq_5_49 wlq_5_50 wlq_5_51 wlq_0_8 wlq_5_33) rfl rfl rfl (by decide +kernel) ⟨Nat.le_of_ble_eq_true rfl, Nat.le_of_ble_eq_true rfl⟩) hK hDD hA0 hP hS 0 12 wm0 rfl rfl hl.1 (Nat.le_of_ble_eq_true rfl) (dk_at dkX12_goesOn__3 12 rfl) (fun z90 A91 H locs hw92 hP hS => ?_)
                obtain ⟨rfl, hw92⟩ := hw92
                have ghw92 : q_X12_otherSide z8 (A64 0 67) A85 z90 := hw92
                have hw92 := hw92.2
                refine x_put (D := (dC, dI)) (ci := 12) (v := .int (iI z90)) (ty := .int) (C := RX12) (T := TX12) (N := 85) hx hb hts hiX12 tyX12 tyX12_ok nmX12 hown hK hP hDD hS 0 wm0 rfl 67 (by decide) (hts _ (List.mem_cons_of_mem _ wlq_6_38)) (fun _ h9 => h9) rfl (by decide +kernel) rfl rfl (Nat.le_of_ble_eq_true rfl) (dk_at dkX12_goesOn__3 13 rfl) (wf67 (v := z90)) (fun H locs hP hS => ?_)
                have hI := hI.st (j := 0) (i := 67) (v := z90) (show (0 : Int) ≤ z90 ∧ z90 ≤ 7 from (by omega))
                refine lv_aload_n hx hb (dk_at dkX12_goesOn__3 14 rfl) rfl (lv_at hl 3 rfl) ?_
                refine lv_iload_n hx hb (dk_at dkX12_goesOn__3 15 rfl) rfl (lv_at hl 2 rfl) ?_
                obtain ⟨A93, hA93⟩ : ∃ A93 : St, A93 = (stA A85 0 67 z90) := ⟨_, rfl⟩
                rw [← hA93] at hP hI
                have e_A64_66 : A64 0 66 = (A10 0 66) := (hf66.2 66 rfl)
                have e_A85_66 : A85 0 66 = (A10 0 66) := (hf87.2 66 rfl).trans e_A64_66
                have e_A93_66 : A93 0 66 = (A10 0 66) := by rw [hA93]; exact e_A85_66
                refine x_callv (As := [.int (iI (z1 + 1))]) (rest := []) ⟨hx, hb, hml, hown, hts⟩ (mc_X12_comes l dC dI cB cI cJ cZ cQ q _ (z1 + 1) hI (by omega) (by exact (QI.fr (QI.fr (QI.fr hc18 hf66 rfl rfl rfl) hf87 rfl rfl rfl) (fr_def hA93 (fr.sf (fr.rf (M := []) (N := [67])) rfl)) rfl rfl rfl)) (by omega)) (cwV 1 hts (goodV wlq_7_4 wlq_7_5 wlq_7_6 wlq_0_8 wlq_6_50) rfl rfl rfl (by decide +kernel) ⟨Nat.le_of_ble_eq_true rfl, Nat.le_of_ble_eq_true rfl⟩) hK hDD hA0 hP hS 0 12 wm0 rfl rfl hl.1 (Nat.le_of_ble_eq_true rfl) (dk_at dkX12_goesOn__4 0 rfl) (fun A94 H locs hw95 hP hS => ?_)
                have ghw95 : q_X12_comes (z1 + 1) A93 A94 := hw95
                obtain ⟨_, hI, hf96, hw95⟩ := hw95
                have r_A94_0_66 : (0 : Int) ≤ (A94 0 66) ∧ (A94 0 66) ≤ 76832 := hI 0 66
                exact J124_72 _ _ _ _ (by omega) hw95.1 (fun uq ⟨mm1, hq⟩ => hk1 _ ⟨mm1 + 1, (u_d_X12_goesOn__1 ⟨gI19.out, ⟨f16, ⟨z20, gz20.out, (Or.inr ⟨c21, ⟨A64, ghw65, ⟨z67, ghw69, ⟨z70, gz70.out, (Or.inr ⟨c71, ⟨z73, ghw75, (Or.inr ⟨c76, ⟨z77, ghw79, (Or.inr ⟨c80, ⟨z81, ghw83, ⟨z84, A85, ghw86, (Or.inl ⟨c89, ⟨z90, ghw92, ⟨A93, hA93, ⟨A94, ghw95, hq⟩⟩⟩⟩)⟩⟩⟩)⟩⟩)⟩⟩)⟩⟩⟩⟩)⟩⟩⟩)⟩) hI (fr.trans (fr_def hA93 (fr.sf (fr.trans (fr.rf) hf87 rfl rfl) rfl)) hf96 rfl rfl) hP hS (lv_sub hl [0, 1, 2, 3, 4] rfl)
              · have c89 : ¬ z84 = 0 := mt (i_eq0 (rb hw86 (by decide) (by decide))).mpr c89
                refine lv_goto (tgt := 124) hx hb (dk_at dkX12_goesOn__3 6 rfl) (by decide) ?_
                have e_A64_66 : A64 0 66 = (A10 0 66) := (hf66.2 66 rfl)
                have e_A85_66 : A85 0 66 = (A10 0 66) := (hf87.2 66 rfl).trans e_A64_66
                exact J124_72 _ _ _ _ (by omega) (QI.fr (QI.fr hc18 hf66 rfl rfl rfl) hf87 rfl rfl rfl) (fun uq ⟨mm1, hq⟩ => hk1 _ ⟨mm1 + 1, (u_d_X12_goesOn__1 ⟨gI19.out, ⟨f16, ⟨z20, gz20.out, (Or.inr ⟨c21, ⟨A64, ghw65, ⟨z67, ghw69, ⟨z70, gz70.out, (Or.inr ⟨c71, ⟨z73, ghw75, (Or.inr ⟨c76, ⟨z77, ghw79, (Or.inr ⟨c80, ⟨z81, ghw83, ⟨z84, A85, ghw86, (Or.inr ⟨c89, hq⟩)⟩⟩⟩)⟩⟩)⟩⟩)⟩⟩⟩⟩)⟩⟩⟩)⟩) hI (fr.trans (fr.rf) hf87 rfl rfl) hP hS (lv_sub hl [0, 1, 2, 3, 4] rfl)
  exact L22_12 _ 0 _ _ _ _ (by omega) (by omega) (by omega) (QI.fr hcQI hf4 rfl rfl rfl) (fun uq ⟨mm1, hq⟩ => (u_r_X12_goesOn_ ⟨z1, gz1.out, ⟨A2, ghw3, ⟨z5, ghw7, ⟨mm1, hq⟩⟩⟩⟩)) rfl hI (fr.rf) hP hS (lv_sub hl [0, 1, 2, 3, 4] rfl)

abbrev tr_d_X12_searches_5 (u : St) (K5 : Int → St → Prop) (z57 : Int) (A59 : St) : Prop := ((IM A59) ∧ ((0 ≤ z57 ∧ z57 ≤ 76832) ∧ ((((A59 0 66) ≤ z57) ∧ (u = A59)) ∨ ((¬ (A59 0 66) ≤ z57) ∧ (∃ z69 : Int, z69 = A59 48 (z57).toNat ∧ (∃ A70 : St, q_X12_goesOn_ z69 A59 A70 ∧ (K5 (z57 + 1) A70)))))))
def d_X12_searches_5 (u : St) : Nat → Int → St → Prop
  | 0, _, _ => False
  | nn9 + 1, z57, A59 => tr_d_X12_searches_5 u (fun z57 A59 => d_X12_searches_5 u nn9 z57 A59) z57 A59
theorem u_d_X12_searches_5 {u : St} {nn9 : Nat} {z57 : Int} {A59 : St} (h : tr_d_X12_searches_5 u (fun z57 A59 => d_X12_searches_5 u nn9 z57 A59) z57 A59) : d_X12_searches_5 u (nn9 + 1) z57 A59 := h
abbrev tr_d_X12_searches_6 (K4 : Int → St → Prop) (z38 : Int) (A40 : St) (u : St) (z82 : Int) : Prop := ((0 ≤ z82 ∧ z82 ≤ 6) ∧ (∃ A85 : St, A85 = (stA A40 49 (z38).toNat z82) ∧ (K4 (z38 + 1) A85)))
def d_X12_searches_6 (K4 : Int → St → Prop) (z38 : Int) (A40 : St) (u : St) (z82 : Int) : Prop := tr_d_X12_searches_6 K4 z38 A40 u z82
theorem u_d_X12_searches_6 {K4 : Int → St → Prop} {z38 : Int} {A40 : St} {u : St} {z82 : Int} (h : tr_d_X12_searches_6 K4 z38 A40 u z82) : d_X12_searches_6 K4 z38 A40 u z82 := h
abbrev tr_d_X12_searches_4 (A : St) (u : St) (K4 : Int → St → Prop) (z38 : Int) (A40 : St) : Prop := ((IM A40) ∧ ((0 ≤ z38 ∧ z38 ≤ 4) ∧ (((4 ≤ z38) ∧ (∃ A48 : St, A48 = (stA A40 0 69 0) ∧ (∃ A54 : St, q_X12_comes 0 A48 A54 ∧ (∃ nn9 : Nat, d_X12_searches_5 u nn9 0 A54)))) ∨ ((¬ 4 ≤ z38) ∧ (∃ z75 : Int, z75 = A40 11 ((A 0 12)).toNat ∧ (((z75 ≤ z38) ∧ (d_X12_searches_6 K4 z38 A40 u 0)) ∨ ((¬ z75 ≤ z38) ∧ (∃ z78 : Int, q_X12_key4 z38 A40 z78 ∧ (∃ z81 : Int, z81 = A40 14 (4 * (A 0 12) + z38).toNat ∧ (d_X12_searches_6 K4 z38 A40 u z81))))))))))
def d_X12_searches_4 (A : St) (u : St) : Nat → Int → St → Prop
  | 0, _, _ => False
  | nn9 + 1, z38, A40 => tr_d_X12_searches_4 A u (fun z38 A40 => d_X12_searches_4 A u nn9 z38 A40) z38 A40
theorem u_d_X12_searches_4 {A : St} {u : St} {nn9 : Nat} {z38 : Int} {A40 : St} (h : tr_d_X12_searches_4 A u (fun z38 A40 => d_X12_searches_4 A u nn9 z38 A40) z38 A40) : d_X12_searches_4 A u (nn9 + 1) z38 A40 := h
abbrev tr_d_X12_searches_3 (x1 : Int) (A : St) (A15 : St) (u : St) : Prop := (∃ z34 : Int, q_X12_placeOf x1 A15 z34 ∧ (∃ A37 : St, A37 = (stA A15 0 67 z34) ∧ (∃ nn9 : Nat, d_X12_searches_4 A u nn9 0 A37)))
def d_X12_searches_3 (x1 : Int) (A : St) (A15 : St) (u : St) : Prop := tr_d_X12_searches_3 x1 A A15 u
theorem u_d_X12_searches_3 {x1 : Int} {A : St} {A15 : St} {u : St} (h : tr_d_X12_searches_3 x1 A A15 u) : d_X12_searches_3 x1 A A15 u := h
abbrev tr_d_X12_searches_2 (x1 : Int) (x3 : Int) (A : St) (u : St) (K2 : Int → St → Prop) (z13 : Int) (A15 : St) : Prop := ((IM A15) ∧ ((0 ≤ z13 ∧ z13 ≤ 12) ∧ (∃ z25 : Int, z25 = A15 22 ((A 0 12)).toNat ∧ (((6 * (A 0 12) + z25 ≤ z13) ∧ (d_X12_searches_3 x1 A A15 u)) ∨ ((¬ 6 * (A 0 12) + z25 ≤ z13) ∧ (((x3 = 0) ∧ (d_X12_searches_3 x1 A A15 u)) ∨ ((¬ x3 = 0) ∧ (∃ z29 : Int, z29 = A15 23 (z13).toNat ∧ (((z29 = x1) ∧ (∃ z31 : Int, z31 = A15 24 (z13).toNat ∧ (∃ A32 : St, A32 = (stA (stA A15 50 ((A15 0 73)).toNat z31) 0 73 ((A15 0 73) + 1)) ∧ (K2 (z13 + 1) A32)))) ∨ ((¬ z29 = x1) ∧ (K2 (z13 + 1) A15)))))))))))
def d_X12_searches_2 (x1 : Int) (x3 : Int) (A : St) (u : St) : Nat → Int → St → Prop
  | 0, _, _ => False
  | nn9 + 1, z13, A15 => tr_d_X12_searches_2 x1 x3 A u (fun z13 A15 => d_X12_searches_2 x1 x3 A u nn9 z13 A15) z13 A15
theorem u_d_X12_searches_2 {x1 : Int} {x3 : Int} {A : St} {u : St} {nn9 : Nat} {z13 : Int} {A15 : St} (h : tr_d_X12_searches_2 x1 x3 A u (fun z13 A15 => d_X12_searches_2 x1 x3 A u nn9 z13 A15) z13 A15) : d_X12_searches_2 x1 x3 A u (nn9 + 1) z13 A15 := h
abbrev tr_d_X12_searches_1 (x1 : Int) (x2 : Int) (x3 : Int) (A : St) (u : St) (K1 : Int → St → Prop) (z1 : Int) (A3 : St) : Prop := ((IM A3) ∧ ((0 ≤ z1 ∧ z1 ≤ 76832) ∧ (((76832 ≤ z1) ∧ (∃ A12 : St, A12 = (stA (stA (stA (stA A3 0 66 0) 0 70 x1) 0 71 x2) 0 73 0) ∧ (∃ nn9 : Nat, d_X12_searches_2 x1 x3 A u nn9 (6 * (A 0 12)) A12))) ∨ ((¬ 76832 ≤ z1) ∧ (∃ A86 : St, A86 = (stA A3 47 (z1).toNat (-1)) ∧ (K1 (z1 + 1) A86))))))
def d_X12_searches_1 (x1 : Int) (x2 : Int) (x3 : Int) (A : St) (u : St) : Nat → Int → St → Prop
  | 0, _, _ => False
  | nn9 + 1, z1, A3 => tr_d_X12_searches_1 x1 x2 x3 A u (fun z1 A3 => d_X12_searches_1 x1 x2 x3 A u nn9 z1 A3) z1 A3
theorem u_d_X12_searches_1 {x1 : Int} {x2 : Int} {x3 : Int} {A : St} {u : St} {nn9 : Nat} {z1 : Int} {A3 : St} (h : tr_d_X12_searches_1 x1 x2 x3 A u (fun z1 A3 => d_X12_searches_1 x1 x2 x3 A u nn9 z1 A3) z1 A3) : d_X12_searches_1 x1 x2 x3 A u (nn9 + 1) z1 A3 := h
abbrev tr_r_X12_searches (x1 : Int) (x2 : Int) (x3 : Int) (A : St) (u : St) : Prop := (∃ nn9 : Nat, d_X12_searches_1 x1 x2 x3 A u nn9 0 A)
def r_X12_searches (x1 : Int) (x2 : Int) (x3 : Int) (A : St) (u : St) : Prop := tr_r_X12_searches x1 x2 x3 A u
theorem u_r_X12_searches {x1 : Int} {x2 : Int} {x3 : Int} {A : St} {u : St} (h : tr_r_X12_searches x1 x2 x3 A u) : r_X12_searches x1 x2 x3 A u := h
def q_X12_searches (x1 : Int) (x2 : Int) (x3 : Int) (A : St) (u : St) : Prop := r_X12_searches x1 x2 x3 A u ∧ IM u ∧ fr [42, 43, 47, 48, 49, 50] [66, 67, 69, 70, 71, 73] A u ∧ CI u ∧ WI u ∧ (True)
def ws_mb_X12_searches : List Cond := .code yX12_searches cX12_searches 5 none :: WX
set_option maxHeartbeats 4000000 in
set_option maxRecDepth 100000 in
theorem mb_X12_searches (l : Launch) (dC : Nat → ClassId) (dI : Nat → Nat → Nat) (cB cI cJ cZ cQ : ClassId) (q : Nat → Nat) (A : St) (x1 x2 x3 : Int) (hI : IM A) (hx1 : (0 : Int) ≤ x1 ∧ x1 ≤ 2) (hx2 : (-2147483648 : Int) ≤ x2 ∧ x2 ≤ 2147483647) (hx3 : (0 : Int) ≤ x3 ∧ x3 ≤ 1) (hcCI : CI A) (hcWI : WI A) : XMv l yX12_searches ws_mb_X12_searches ({ frames := 5, cells := 0, slots := 0, locals := 124 } : Room) (dC, dI) (tyA cB cI cJ cZ cQ) (WM cI cJ cZ q) A [.ref (q 0), .int (iI x1), .int (iI x2), .int (iI x3)] (fun u => r_X12_searches x1 x2 x3 A u ∧ IM u ∧ fr [42, 43, 47, 48, 49, 50] [66, 67, 69, 70, 71, 73] A u ∧ CI u ∧ WI u ∧ (True)) := by
  refine x_metv (cc := cX12_searches) (maxL := 5) WM_adr (by decide +kernel) rfl (Nat.le_of_ble_eq_true rfl) (fun p e s m below meth c Q AS ls hx hb hml hown hts hK hDD hA0 hP hS hl RET => ?_)
  have hown : s.vm.findClass RX12 = some m.cls := hown
  have hl : lv_has ls 5 [(0, .ref (q 0)), (1, .int (iI x1)), (2, .int (iI x2)), (3, .int (iI x3))] := hl
  have hiX12 : ∀ w ∈ u_ws RX12 TX12 85, w ∈ ws_mb_X12_searches := fun w h => List.mem_cons_of_mem _ (wx_lay w h)
  obtain ⟨H, hHe⟩ : ∃ H : Heap, H = s.heap := ⟨_, rfl⟩
  rw [← hHe] at hP
  have hS : va_S AS s.heap H [] := by rw [hHe]; exact hS
  suffices hgo : ∀ locs : List Loc, va_S AS s.heap H locs → W p l e (headSpec ws_mb_X12_searches ({ frames := 5, cells := 0, slots := 0, locals := 124 } : Room)).room s m [.ref (q 0), .int (iI x1), .int (iI x2), .int (iI x3)].toArray below meth c H locs 0 0 Q (F0 m 0 ls []) by
    have := hgo [] hS
    rw [hHe] at this
    exact this
  clear hS hHe
  intro locs hS
  have hI0 := hI
  refine lv_iconst (v := iI 0) hx hb (dk_at dkX12_searches_0 0 rfl) (by decide +kernel) ?_
  refine lv_istore (lv' := [(4, .int (iI 0)), (0, .ref (q 0)), (1, .int (iI x1)), (2, .int (iI x2)), (3, .int (iI x3))]) hx hb (dk_at dkX12_searches_0 1 rfl) hl (by decide) rfl (fun ls hl => ?_)
  have L3_4 : ∀ (n6 : Nat) (z1 : Int) (A3 : St) (H : Heap) (locs : List Loc) (ls : Array Slot), (0 ≤ z1) → (0 ≤ z1 ∧ z1 ≤ 76832) → (Hd (∀ i : Nat, (i : Int) < z1 → A3 47 i = -1)) → (∀ (u : St), (∃ mm1 : Nat, (d_X12_searches_1 x1 x2 x3 A u mm1 z1 A3)) → r_X12_searches x1 x2 x3 A u) → ((76832 - z1 + 1).toNat = n6) → IM A3 → fr [47] [] A A3 → va_P (dC, dI) vwCl (WM cI cJ cZ q A3) H → va_S AS s.heap H locs → lv_has ls 5 [(4, .int (iI z1)), (0, .ref (q 0)), (1, .int (iI x1)), (2, .int (iI x2)), (3, .int (iI x3))] → W p l e (headSpec ws_mb_X12_searches ({ frames := 5, cells := 0, slots := 0, locals := 124 } : Room)).room s m [.ref (q 0), .int (iI x1), .int (iI x2), .int (iI x3)].toArray below meth c H locs 0 0 Q (F0 m 3 ls []) := by
    intro n6
    induction n6 using Nat.strongRecOn with
    | ind n6 ih5 =>
      intro z1 A3 H locs ls f7 f8 f9 hk1 hn6 hI hj2 hP hS hl
      have gI10 : Hd (IM A3) := Hd.mk hI
      refine lv_iload hx hb (dk_at dkX12_searches_0 2 rfl) (lv_at hl 0 rfl) ?_
      refine lv_ldc (v := 76832) hx hb hown (hts _ (List.mem_cons_of_mem _ wlq_7_1)) (dk_at dkX12_searches_0 3 rfl) ?_
      refine tp_i (y := iI 76832) (by decide +kernel) ?_
      refine lv_icmp_ge (tgt := 24) hx hb (dk_at dkX12_searches_0 4 rfl) (by decide) (fun c11 => ?_) (fun c11 => ?_)
      · have c11 : 76832 ≤ z1 := (i_le ⟨by decide, by decide⟩ (rb f8 (by decide) (by decide))).mp c11
        refine lv_aload_n hx hb (dk_at dkX12_searches_0 12 rfl) rfl (lv_at hl 1 rfl) ?_
        refine lv_iconst (v := iI 0) hx hb (dk_at dkX12_searches_0 13 rfl) (by decide +kernel) ?_
        refine x_put (D := (dC, dI)) (ci := 12) (v := .int (iI 0)) (ty := .int) (C := RX12) (T := TX12) (N := 85) hx hb hts hiX12 tyX12 tyX12_ok nmX12 hown hK hP hDD hS 0 wm0 rfl 66 (by decide) (hts _ (List.mem_cons_of_mem _ wlq_6_53)) (fun _ h9 => h9) rfl (by decide +kernel) rfl rfl (Nat.le_of_ble_eq_true rfl) (dk_at dkX12_searches_0 14 rfl) (wf66 (v := 0)) (fun H locs hP hS => ?_)
        have hI := hI.st (j := 0) (i := 66) (v := 0) (show (0 : Int) ≤ 0 ∧ 0 ≤ 76832 from (by omega))
        refine lv_aload_n hx hb (dk_at dkX12_searches_0 15 rfl) rfl (lv_at hl 1 rfl) ?_
        refine lv_iload_n hx hb (dk_at dkX12_searches_1 0 rfl) rfl (lv_at hl 2 rfl) ?_
        refine x_put (D := (dC, dI)) (ci := 12) (v := .int (iI x1)) (ty := .int) (C := RX12) (T := TX12) (N := 85) hx hb hts hiX12 tyX12 tyX12_ok nmX12 hown hK hP hDD hS 0 wm0 rfl 70 (by decide) (hts _ (List.mem_cons_of_mem _ wlq_7_2)) (fun _ h9 => h9) rfl (by decide +kernel) rfl rfl (Nat.le_of_ble_eq_true rfl) (dk_at dkX12_searches_1 1 rfl) (wf70 (v := x1)) (fun H locs hP hS => ?_)
        have hI := hI.st (j := 0) (i := 70) (v := x1) (show (0 : Int) ≤ x1 ∧ x1 ≤ 2 from (by omega))
        refine lv_aload_n hx hb (dk_at dkX12_searches_1 2 rfl) rfl (lv_at hl 1 rfl) ?_
        refine lv_iload_n hx hb (dk_at dkX12_searches_1 3 rfl) rfl (lv_at hl 3 rfl) ?_
        refine x_put (D := (dC, dI)) (ci := 12) (v := .int (iI x2)) (ty := .int) (C := RX12) (T := TX12) (N := 85) hx hb hts hiX12 tyX12 tyX12_ok nmX12 hown hK hP hDD hS 0 wm0 rfl 71 (by decide) (hts _ (List.mem_cons_of_mem _ wlq_7_3)) (fun _ h9 => h9) rfl (by decide +kernel) rfl rfl (Nat.le_of_ble_eq_true rfl) (dk_at dkX12_searches_1 4 rfl) (wf71 (v := x2)) (fun H locs hP hS => ?_)
        have hI := hI.st (j := 0) (i := 71) (v := x2) (show (-2147483648 : Int) ≤ x2 ∧ x2 ≤ 2147483647 from (by omega))
        refine lv_aload_n hx hb (dk_at dkX12_searches_1 5 rfl) rfl (lv_at hl 1 rfl) ?_
        refine lv_iconst (v := iI 0) hx hb (dk_at dkX12_searches_1 6 rfl) (by decide +kernel) ?_
        refine x_put (D := (dC, dI)) (ci := 12) (v := .int (iI 0)) (ty := .int) (C := RX12) (T := TX12) (N := 85) hx hb hts hiX12 tyX12 tyX12_ok nmX12 hown hK hP hDD hS 0 wm0 rfl 73 (by decide) (hts _ (List.mem_cons_of_mem _ wlq_6_48)) (fun _ h9 => h9) rfl (by decide +kernel) rfl rfl (Nat.le_of_ble_eq_true rfl) (dk_at dkX12_searches_1 7 rfl) (wf73 (v := 0)) (fun H locs hP hS => ?_)
        have hI := hI.st (j := 0) (i := 73) (v := 0) (show (0 : Int) ≤ 0 ∧ 0 ≤ 2 from (by omega))
        refine lv_bipush (v := iI 6) hx hb (dk_at dkX12_searches_1 8 rfl) (by decide +kernel) ?_
        refine lv_aload_n hx hb (dk_at dkX12_searches_1 9 rfl) rfl (lv_at hl 1 rfl) ?_
        have e_A3_12 : A3 0 12 = (A 0 12) := (hj2.2 12 rfl)
        refine va_get (D := (dC, dI)) (ci := 12) (v := .int (iI (A3 0 12))) (C := RX12) (T := TX12) (N := 85) hx hb hts hiX12 hown hK hP 0 wm0 rfl 12 (by decide) (hts _ (List.mem_cons_of_mem _ wlq_4_14)) (fun _ h9 => h9) rfl (dk_at dkX12_searches_1 10 rfl) ?_
        refine tp_i (y := iI (A 0 12)) (congrArg iI e_A3_12) ?_
        have r_A_0_12 : (0 : Int) ≤ (A 0 12) ∧ (A 0 12) ≤ 1 := by rw [← e_A3_12]; exact hI 0 12
        refine x_mulv (v := 6 * (A 0 12)) hx hb (dk_at dkX12_searches_1 11 rfl) (by omega) ?_
        refine lv_istore (lv' := [(4, .int (iI (6 * (A 0 12)))), (0, .ref (q 0)), (1, .int (iI x1)), (2, .int (iI x2)), (3, .int (iI x3))]) hx hb (dk_at dkX12_searches_1 12 rfl) hl (by decide) rfl (fun ls hl => ?_)
        obtain ⟨A12, hA12⟩ : ∃ A12 : St, A12 = (stA (stA (stA (stA A3 0 66 0) 0 70 x1) 0 71 x2) 0 73 0) := ⟨_, rfl⟩
        rw [← hA12] at hP hI
        have e_A12_73 : A12 0 73 = 0 := by rw [hA12]; rfl
        have L53_17 : ∀ (n19 : Nat) (z13 : Int) (A15 : St) (H : Heap) (locs : List Loc) (ls : Array Slot), (6 * (A 0 12) ≤ z13) → (0 ≤ z13 ∧ z13 ≤ 12) → (6 * (A 0 12) ≤ z13) → (Hd (x3 = 1 → (A15 0 73) = ct (A 23) (6 * (A 0 12)).toNat x1 (z13 - 6 * (A 0 12)).toNat)) → (∀ (u : St), (∃ mm1 mm2 : Nat, (d_X12_searches_2 x1 x3 A u mm2 z13 A15)) → r_X12_searches x1 x2 x3 A u) → ((6 * (A 0 12) + A 22 ((A 0 12)).toNat - z13 + 1).toNat = n19) → IM A15 → fr [50] [73] A12 A15 → va_P (dC, dI) vwCl (WM cI cJ cZ q A15) H → va_S AS s.heap H locs → lv_has ls 5 [(4, .int (iI z13)), (0, .ref (q 0)), (1, .int (iI x1)), (2, .int (iI x2)), (3, .int (iI x3))] → W p l e (headSpec ws_mb_X12_searches ({ frames := 5, cells := 0, slots := 0, locals := 124 } : Room)).room s m [.ref (q 0), .int (iI x1), .int (iI x2), .int (iI x3)].toArray below meth c H locs 0 0 Q (F0 m 53 ls []) := by
          intro n19
          induction n19 using Nat.strongRecOn with
          | ind n19 ih18 =>
            intro z13 A15 H locs ls f20 f21 f22 f23 hk2 hn19 hI hj14 hP hS hl
            have gI24 : Hd (IM A15) := Hd.mk hI
            have r_A15_0_73 : (0 : Int) ≤ (A15 0 73) ∧ (A15 0 73) ≤ 2 := hI 0 73
            refine lv_iload hx hb (dk_at dkX12_searches_1 13 rfl) (lv_at hl 0 rfl) ?_
            refine lv_bipush (v := iI 6) hx hb (dk_at dkX12_searches_1 14 rfl) (by decide +kernel) ?_
            refine lv_aload_n hx hb (dk_at dkX12_searches_1 15 rfl) rfl (lv_at hl 1 rfl) ?_
            have e_A12_12 : A12 0 12 = (A 0 12) := by rw [hA12]; exact e_A3_12
            have e_A15_12 : A15 0 12 = (A 0 12) := (hj14.2 12 rfl).trans e_A12_12
            refine va_get (D := (dC, dI)) (ci := 12) (v := .int (iI (A15 0 12))) (C := RX12) (T := TX12) (N := 85) hx hb hts hiX12 hown hK hP 0 wm0 rfl 12 (by decide) (hts _ (List.mem_cons_of_mem _ wlq_4_14)) (fun _ h9 => h9) rfl (dk_at dkX12_searches_2 0 rfl) ?_
            refine tp_i (y := iI (A 0 12)) (congrArg iI e_A15_12) ?_
            refine x_mulv (v := 6 * (A 0 12)) hx hb (dk_at dkX12_searches_2 1 rfl) (by omega) ?_
            refine lv_aload_n hx hb (dk_at dkX12_searches_2 2 rfl) rfl (lv_at hl 1 rfl) ?_
            refine va_get (D := (dC, dI)) (ci := 12) (v := .ref (q 22)) (C := RX12) (T := TX12) (N := 85) hx hb hts hiX12 hown hK hP 0 wm0 rfl 33 (by decide) (hts _ (List.mem_cons_of_mem _ wlq_3_16)) (fun _ h9 => h9) rfl (dk_at dkX12_searches_2 3 rfl) ?_
            refine lv_aload_n hx hb (dk_at dkX12_searches_2 4 rfl) rfl (lv_at hl 1 rfl) ?_
            refine va_get (D := (dC, dI)) (ci := 12) (v := .int (iI (A15 0 12))) (C := RX12) (T := TX12) (N := 85) hx hb hts hiX12 hown hK hP 0 wm0 rfl 12 (by decide) (hts _ (List.mem_cons_of_mem _ wlq_4_14)) (fun _ h9 => h9) rfl (dk_at dkX12_searches_2 5 rfl) ?_
            refine tp_i (y := iI (A 0 12)) (congrArg iI e_A15_12) ?_
            have a_A3_22 : A3 22 = A 22 := (hj2.1 22 (by decide) rfl)
            have a_A12_22 : A12 22 = A 22 := by rw [hA12]; exact a_A3_22
            have a_A15_22 : A15 22 = A 22 := (hj14.1 22 (by decide) rfl).trans a_A12_22
            refine x_iald hx hb hK hP 22 1 wm22 rfl (by omega) (by decide) (dk_at dkX12_searches_2 6 rfl) (fun z25 hz25 => ?_)
            have rz25 : (0 : Int) ≤ z25 ∧ z25 ≤ 6 := by rw [hz25]; exact hI 22 _
            have gz25 := Hd.mk hz25
            have hz25 : z25 = A 22 ((A 0 12)).toNat := hz25.trans (congrFun a_A15_22 _)
            refine x_addv (v := 6 * (A 0 12) + z25) hx hb (dk_at dkX12_searches_2 7 rfl) (by omega) ?_
            have J125_27 : ∀ (H : Heap) (locs : List Loc) (ls : Array Slot), (∀ (u : St), (∃ mm1 mm2 : Nat, (d_X12_searches_3 x1 A A15 u)) → r_X12_searches x1 x2 x3 A u) → va_P (dC, dI) vwCl (WM cI cJ cZ q A15) H → va_S AS s.heap H locs → lv_has ls 5 [(4, .int (iI z13)), (0, .ref (q 0)), (1, .int (iI x1)), (2, .int (iI x2)), (3, .int (iI x3))] → W p l e (headSpec ws_mb_X12_searches ({ frames := 5, cells := 0, slots := 0, locals := 124 } : Room)).room s m [.ref (q 0), .int (iI x1), .int (iI x2), .int (iI x3)].toArray below meth c H locs 0 0 Q (F0 m 125 ls []) := by
              intro H locs ls hk3 hP hS hl
              refine lv_aload_n hx hb (dk_at dkX12_searches_4 3 rfl) rfl (lv_at hl 1 rfl) ?_
              refine lv_aload_n hx hb (dk_at dkX12_searches_4 4 rfl) rfl (lv_at hl 1 rfl) ?_
              refine lv_iload_n hx hb (dk_at dkX12_searches_4 5 rfl) rfl (lv_at hl 2 rfl) ?_
              refine x_calli (As := [.int (iI x1)]) (rest := [.ref (q 0)]) ⟨hx, hb, hml, hown, hts⟩ (mc_X12_placeOf l dC dI cB cI cJ cZ cQ q _ x1 hI hx1) (cwV 1 hts (goodV wlq_5_35 wlq_5_36 wlq_5_37 wlq_0_8 wlq_5_25) rfl rfl rfl (by decide +kernel) ⟨Nat.le_of_ble_eq_true rfl, Nat.le_of_ble_eq_true rfl⟩) hK hDD hA0 hP hS 0 12 wm0 rfl rfl hl.1 (Nat.le_of_ble_eq_true rfl) (dk_at dkX12_searches_4 6 rfl) (fun z34 A35 H locs hw36 hP hS => ?_)
              obtain ⟨rfl, hw36⟩ := hw36
              have ghw36 : q_X12_placeOf x1 A15 z34 := hw36
              have hw36 := hw36.2
              refine x_put (D := (dC, dI)) (ci := 12) (v := .int (iI z34)) (ty := .int) (C := RX12) (T := TX12) (N := 85) hx hb hts hiX12 tyX12 tyX12_ok nmX12 hown hK hP hDD hS 0 wm0 rfl 67 (by decide) (hts _ (List.mem_cons_of_mem _ wlq_6_38)) (fun _ h9 => h9) rfl (by decide +kernel) rfl rfl (Nat.le_of_ble_eq_true rfl) (dk_at dkX12_searches_4 7 rfl) (wf67 (v := z34)) (fun H locs hP hS => ?_)
              have hI := hI.st (j := 0) (i := 67) (v := z34) (show (0 : Int) ≤ z34 ∧ z34 ≤ 7 from (by omega))
              refine lv_iconst (v := iI 0) hx hb (dk_at dkX12_searches_4 8 rfl) (by decide +kernel) ?_
              refine lv_istore (lv' := [(4, .int (iI 0)), (0, .ref (q 0)), (1, .int (iI x1)), (2, .int (iI x2)), (3, .int (iI x3))]) hx hb (dk_at dkX12_searches_4 9 rfl) hl (by decide) rfl (fun ls hl => ?_)
              obtain ⟨A37, hA37⟩ : ∃ A37 : St, A37 = (stA A15 0 67 z34) := ⟨_, rfl⟩
              rw [← hA37] at hP hI
              have L137_41 : ∀ (n43 : Nat) (z38 : Int) (A40 : St) (H : Heap) (locs : List Loc) (ls : Array Slot), (0 ≤ z38) → (0 ≤ z38 ∧ z38 ≤ 4) → (∀ (u : St), (∃ mm1 mm2 mm4 : Nat, (d_X12_searches_4 A u mm4 z38 A40)) → r_X12_searches x1 x2 x3 A u) → ((4 - z38 + 1).toNat = n43) → IM A40 → fr [49] [] A37 A40 → va_P (dC, dI) vwCl (WM cI cJ cZ q A40) H → va_S AS s.heap H locs → lv_has ls 5 [(4, .int (iI z38)), (0, .ref (q 0)), (1, .int (iI x1)), (2, .int (iI x2)), (3, .int (iI x3))] → W p l e (headSpec ws_mb_X12_searches ({ frames := 5, cells := 0, slots := 0, locals := 124 } : Room)).room s m [.ref (q 0), .int (iI x1), .int (iI x2), .int (iI x3)].toArray below meth c H locs 0 0 Q (F0 m 137 ls []) := by
                intro n43
                induction n43 using Nat.strongRecOn with
                | ind n43 ih42 =>
                  intro z38 A40 H locs ls f44 f45 hk4 hn43 hI hj39 hP hS hl
                  have gI46 : Hd (IM A40) := Hd.mk hI
                  refine lv_iload hx hb (dk_at dkX12_searches_4 10 rfl) (lv_at hl 0 rfl) ?_
                  refine lv_iconst (v := iI 4) hx hb (dk_at dkX12_searches_4 11 rfl) (by decide +kernel) ?_
                  refine lv_icmp_ge (tgt := 185) hx hb (dk_at dkX12_searches_4 12 rfl) (by decide) (fun c47 => ?_) (fun c47 => ?_)
                  · have c47 : 4 ≤ z38 := (i_le ⟨by decide, by decide⟩ (rb f45 (by decide) (by decide))).mp c47
                    refine lv_aload_n hx hb (dk_at dkX12_searches_6 2 rfl) rfl (lv_at hl 1 rfl) ?_
                    refine lv_iconst (v := iI 0) hx hb (dk_at dkX12_searches_6 3 rfl) (by decide +kernel) ?_
                    refine x_put (D := (dC, dI)) (ci := 12) (v := .int (iI 0)) (ty := .int) (C := RX12) (T := TX12) (N := 85) hx hb hts hiX12 tyX12 tyX12_ok nmX12 hown hK hP hDD hS 0 wm0 rfl 69 (by decide) (hts _ (List.mem_cons_of_mem _ wlq_6_40)) (fun _ h9 => h9) rfl (by decide +kernel) rfl rfl (Nat.le_of_ble_eq_true rfl) (dk_at dkX12_searches_6 4 rfl) (wf69 (v := 0)) (fun H locs hP hS => ?_)
                    have hI := hI.st (j := 0) (i := 69) (v := 0) (show (0 : Int) ≤ 0 ∧ 0 ≤ 3 from (by omega))
                    refine lv_aload_n hx hb (dk_at dkX12_searches_6 5 rfl) rfl (lv_at hl 1 rfl) ?_
                    refine lv_iconst (v := iI 0) hx hb (dk_at dkX12_searches_6 6 rfl) (by decide +kernel) ?_
                    obtain ⟨A48, hA48⟩ : ∃ A48 : St, A48 = (stA A40 0 69 0) := ⟨_, rfl⟩
                    rw [← hA48] at hP hI
                    have e_A12_66 : A12 0 66 = 0 := by rw [hA12]; rfl
                    have e_A15_66 : A15 0 66 = 0 := (hj14.2 66 rfl).trans e_A12_66
                    have e_A37_66 : A37 0 66 = 0 := by rw [hA37]; exact e_A15_66
                    have e_A40_66 : A40 0 66 = 0 := (hj39.2 66 rfl).trans e_A37_66
                    have e_A48_66 : A48 0 66 = 0 := by rw [hA48]; exact e_A40_66
                    have ca49 : A12 47 = A3 47 := by rw [hA12]; exact rfl
                    have ca50 : A15 47 = A3 47 := (hj14.1 47 (by decide) rfl).trans ca49
                    have ca51 : A37 47 = A3 47 := by rw [hA37]; exact ca50
                    have ca52 : A40 47 = A3 47 := (hj39.1 47 (by decide) rfl).trans ca51
                    have ca53 : A48 47 = A3 47 := by rw [hA48]; exact ca52
                    have hqi : QI A48 := QI.start (fun i hi => by rw [ca53]; exact f9.out i (by omega)) (by omega)
                    refine x_callv (As := [.int (iI 0)]) (rest := []) ⟨hx, hb, hml, hown, hts⟩ (mc_X12_comes l dC dI cB cI cJ cZ cQ q _ 0 hI ⟨by decide, by decide⟩ (by exact hqi) (by omega)) (cwV 1 hts (goodV wlq_7_4 wlq_7_5 wlq_7_6 wlq_0_8 wlq_6_50) rfl rfl rfl (by decide +kernel) ⟨Nat.le_of_ble_eq_true rfl, Nat.le_of_ble_eq_true rfl⟩) hK hDD hA0 hP hS 0 12 wm0 rfl rfl hl.1 (Nat.le_of_ble_eq_true rfl) (dk_at dkX12_searches_6 7 rfl) (fun A54 H locs hw55 hP hS => ?_)
                    have ghw55 : q_X12_comes 0 A48 A54 := hw55
                    obtain ⟨_, hI, hf56, hw55⟩ := hw55
                    have r_A54_0_66 : (0 : Int) ≤ (A54 0 66) ∧ (A54 0 66) ≤ 76832 := hI 0 66
                    refine lv_iconst (v := iI 0) hx hb (dk_at dkX12_searches_6 8 rfl) (by decide +kernel) ?_
                    refine lv_istore (lv' := [(4, .int (iI 0)), (0, .ref (q 0)), (1, .int (iI x1)), (2, .int (iI x2)), (3, .int (iI x3))]) hx hb (dk_at dkX12_searches_6 9 rfl) hl (by decide) rfl (fun ls hl => ?_)
                    have L198_60 : ∀ (n62 : Nat) (z57 : Int) (A59 : St) (H : Heap) (locs : List Loc) (ls : Array Slot), (0 ≤ z57) → (0 ≤ z57 ∧ z57 ≤ 76832) → (z57 ≤ (A59 0 66)) → (QI A59) → (∀ (u : St), (∃ mm1 mm2 mm4 mm5 : Nat, (d_X12_searches_5 u mm5 z57 A59)) → r_X12_searches x1 x2 x3 A u) → ((76832 - z57).toNat = n62) → IM A59 → fr [42, 43, 47, 48, 49] [66, 67, 69] A54 A59 → va_P (dC, dI) vwCl (WM cI cJ cZ q A59) H → va_S AS s.heap H locs → lv_has ls 5 [(4, .int (iI z57)), (0, .ref (q 0)), (1, .int (iI x1)), (2, .int (iI x2)), (3, .int (iI x3))] → W p l e (headSpec ws_mb_X12_searches ({ frames := 5, cells := 0, slots := 0, locals := 124 } : Room)).room s m [.ref (q 0), .int (iI x1), .int (iI x2), .int (iI x3)].toArray below meth c H locs 0 0 Q (F0 m 198 ls []) := by
                      intro n62
                      induction n62 using Nat.strongRecOn with
                      | ind n62 ih61 =>
                        intro z57 A59 H locs ls f63 f64 f65 hc66 hk5 hn62 hI hj58 hP hS hl
                        have gI67 : Hd (IM A59) := Hd.mk hI
                        have r_A59_0_66 : (0 : Int) ≤ (A59 0 66) ∧ (A59 0 66) ≤ 76832 := hI 0 66
                        refine lv_iload hx hb (dk_at dkX12_searches_6 10 rfl) (lv_at hl 0 rfl) ?_
                        refine lv_aload_n hx hb (dk_at dkX12_searches_6 11 rfl) rfl (lv_at hl 1 rfl) ?_
                        refine va_get (D := (dC, dI)) (ci := 12) (v := .int (iI (A59 0 66))) (C := RX12) (T := TX12) (N := 85) hx hb hts hiX12 hown hK hP 0 wm0 rfl 66 (by decide) (hts _ (List.mem_cons_of_mem _ wlq_6_53)) (fun _ h9 => h9) rfl (dk_at dkX12_searches_6 12 rfl) ?_
                        refine lv_icmp_ge (tgt := 224) hx hb (dk_at dkX12_searches_6 13 rfl) (by decide) (fun c68 => ?_) (fun c68 => ?_)
                        · have c68 : (A59 0 66) ≤ z57 := (i_le (rb r_A59_0_66 (by decide) (by decide)) (rb f64 (by decide) (by decide))).mp c68
                          exact RET _ _ _ _ _ ⟨hk5 _ ⟨0, 0, 0, 0 + 1, (u_d_X12_searches_5 ⟨gI67.out, ⟨f64, (Or.inl ⟨c68, rfl⟩)⟩⟩)⟩, hI, fr.trans (fr.trans (fr_def hA48 (fr.sf (fr.trans (fr_def hA37 (fr.sf (fr.trans (fr_def hA12 (fr.sf (fr.sf (fr.sf (fr.sf (fr.trans (fr.rf) hj2 rfl rfl) rfl) rfl) rfl) rfl)) hj14 rfl rfl) rfl)) hj39 rfl rfl) rfl)) hf56 rfl rfl) hj58 rfl rfl, (CI.fr (CI.fr (CI.fr (CI.fr (CI.fr (CI.fr (CI.fr (CI.fr hcCI hj2 rfl rfl) (fr_def hA12 (fr.sf (fr.sf (fr.sf (fr.sf (fr.rf (M := []) (N := [66, 70, 71, 73])) rfl) rfl) rfl) rfl)) rfl rfl) hj14 rfl rfl) (fr_def hA37 (fr.sf (fr.rf (M := []) (N := [67])) rfl)) rfl rfl) hj39 rfl rfl) (fr_def hA48 (fr.sf (fr.rf (M := []) (N := [69])) rfl)) rfl rfl) hf56 rfl rfl) hj58 rfl rfl), (WI.fr (WI.fr (WI.fr (WI.fr (WI.fr (WI.fr (WI.fr (WI.fr hcWI hj2 rfl rfl) (fr_def hA12 (fr.sf (fr.sf (fr.sf (fr.sf (fr.rf (M := []) (N := [66, 70, 71, 73])) rfl) rfl) rfl) rfl)) rfl rfl) hj14 rfl rfl) (fr_def hA37 (fr.sf (fr.rf (M := []) (N := [67])) rfl)) rfl rfl) hj39 rfl rfl) (fr_def hA48 (fr.sf (fr.rf (M := []) (N := [69])) rfl)) rfl rfl) hf56 rfl rfl) hj58 rfl rfl), trivial⟩ hP hS (dk_at dkX12_searches_7 6 rfl)
                        · have c68 : ¬ (A59 0 66) ≤ z57 := mt (i_le (rb r_A59_0_66 (by decide) (by decide)) (rb f64 (by decide) (by decide))).mpr c68
                          refine lv_aload_n hx hb (dk_at dkX12_searches_6 14 rfl) rfl (lv_at hl 1 rfl) ?_
                          refine lv_aload_n hx hb (dk_at dkX12_searches_6 15 rfl) rfl (lv_at hl 1 rfl) ?_
                          refine va_get (D := (dC, dI)) (ci := 12) (v := .ref (q 48)) (C := RX12) (T := TX12) (N := 85) hx hb hts hiX12 hown hK hP 0 wm0 rfl 65 (by decide) (hts _ (List.mem_cons_of_mem _ wlq_6_52)) (fun _ h9 => h9) rfl (dk_at dkX12_searches_7 0 rfl) ?_
                          refine lv_iload hx hb (dk_at dkX12_searches_7 1 rfl) (lv_at hl 0 rfl) ?_
                          refine x_iald hx hb hK hP 48 1 wm48 rfl (by omega) (by decide) (dk_at dkX12_searches_7 2 rfl) (fun z69 hz69 => ?_)
                          have rz69 : (0 : Int) ≤ z69 ∧ z69 ≤ 76831 := by rw [hz69]; exact hI 48 _
                          have gz69 := Hd.mk hz69
                          have hz69 : z69 = A59 48 (z57).toNat := hz69
                          have gq := (hc66).2 (z57).toNat (by omega)
                          rw [show A59 48 (z57).toNat = z69 by exact hz69.symm] at gq
                          refine x_callv (As := [.int (iI z69)]) (rest := []) ⟨hx, hb, hml, hown, hts⟩ (mb_X12_goesOn_ l dC dI cB cI cJ cZ cQ q _ z69 hI rz69 (by exact gq.1) (by omega) (CI.fr (CI.fr (CI.fr (CI.fr (CI.fr (CI.fr (CI.fr (CI.fr hcCI hj2 rfl rfl) (fr_def hA12 (fr.sf (fr.sf (fr.sf (fr.sf (fr.rf (M := []) (N := [66, 70, 71, 73])) rfl) rfl) rfl) rfl)) rfl rfl) hj14 rfl rfl) (fr_def hA37 (fr.sf (fr.rf (M := []) (N := [67])) rfl)) rfl rfl) hj39 rfl rfl) (fr_def hA48 (fr.sf (fr.rf (M := []) (N := [69])) rfl)) rfl rfl) hf56 rfl rfl) hj58 rfl rfl) hc66) (cwV 1 hts (goodV wlq_7_7 wlq_7_8 wlq_7_9 wlq_0_8 wlq_7_10) rfl rfl rfl (by decide +kernel) ⟨Nat.le_of_ble_eq_true rfl, Nat.le_of_ble_eq_true rfl⟩) hK hDD hA0 hP hS 0 12 wm0 rfl rfl hl.1 (Nat.le_of_ble_eq_true rfl) (dk_at dkX12_searches_7 3 rfl) (fun A70 H locs hw71 hP hS => ?_)
                          have ghw71 : q_X12_goesOn_ z69 A59 A70 := hw71
                          obtain ⟨_, hI, hf72, hw71⟩ := hw71
                          obtain ⟨hc73, hw71⟩ := hw71
                          obtain ⟨hc74, hw71⟩ := hw71
                          have r_A70_0_66 : (0 : Int) ≤ (A70 0 66) ∧ (A70 0 66) ≤ 76832 := hI 0 66
                          refine lv_iinc (v := iI (z57 + 1)) (lv' := [(4, .int (iI (z57 + 1))), (0, .ref (q 0)), (1, .int (iI x1)), (2, .int (iI x2)), (3, .int (iI x3))]) hx hb (dk_at dkX12_searches_7 4 rfl) hl (k := 0) rfl (i_inc (by omega)) (by decide) rfl (fun ls hl => ?_)
                          refine lv_goto (tgt := 198) hx hb (dk_at dkX12_searches_7 5 rfl) (by decide) ?_
                          exact ih61 _ (by omega) (z57 + 1) _ _ _ _ (by omega) (by omega) (by omega) hc74 (fun uq ⟨mm1, mm2, mm4, mm5, hq⟩ => hk5 _ ⟨mm1, mm2, mm4, mm5 + 1, (u_d_X12_searches_5 ⟨gI67.out, ⟨f64, (Or.inr ⟨c68, ⟨z69, gz69.out, ⟨A70, ghw71, hq⟩⟩⟩)⟩⟩)⟩) rfl hI (fr.trans (fr.trans (fr.rf) hj58 rfl rfl) hf72 rfl rfl) hP hS (lv_sub hl [0, 1, 2, 3, 4] rfl)
                    exact L198_60 _ 0 _ _ _ _ (by omega) (by omega) (by omega) hw55.1 (fun uq ⟨mm1, mm2, mm4, mm5, hq⟩ => hk4 _ ⟨mm1, mm2, mm4 + 1, (u_d_X12_searches_4 ⟨gI46.out, ⟨f45, (Or.inl ⟨c47, ⟨A48, hA48, ⟨A54, ghw55, ⟨mm5, hq⟩⟩⟩⟩)⟩⟩)⟩) rfl hI (fr.rf) hP hS (lv_sub hl [0, 1, 2, 3, 4] rfl)
                  · have c47 : ¬ 4 ≤ z38 := mt (i_le ⟨by decide, by decide⟩ (rb f45 (by decide) (by decide))).mpr c47
                    refine lv_aload_n hx hb (dk_at dkX12_searches_4 13 rfl) rfl (lv_at hl 1 rfl) ?_
                    refine va_get (D := (dC, dI)) (ci := 12) (v := .ref (q 49)) (C := RX12) (T := TX12) (N := 85) hx hb hts hiX12 hown hK hP 0 wm0 rfl 68 (by decide) (hts _ (List.mem_cons_of_mem _ wlq_6_39)) (fun _ h9 => h9) rfl (dk_at dkX12_searches_4 14 rfl) ?_
                    refine lv_iload hx hb (dk_at dkX12_searches_4 15 rfl) (lv_at hl 0 rfl) ?_
                    refine lv_iload hx hb (dk_at dkX12_searches_5 0 rfl) (lv_at hl 0 rfl) ?_
                    refine lv_aload_n hx hb (dk_at dkX12_searches_5 1 rfl) rfl (lv_at hl 1 rfl) ?_
                    refine va_get (D := (dC, dI)) (ci := 12) (v := .ref (q 11)) (C := RX12) (T := TX12) (N := 85) hx hb hts hiX12 hown hK hP 0 wm0 rfl 22 (by decide) (hts _ (List.mem_cons_of_mem _ wlq_1_14)) (fun _ h9 => h9) rfl (dk_at dkX12_searches_5 2 rfl) ?_
                    refine lv_aload_n hx hb (dk_at dkX12_searches_5 3 rfl) rfl (lv_at hl 1 rfl) ?_
                    have e_A37_12 : A37 0 12 = (A 0 12) := by rw [hA37]; exact e_A15_12
                    have e_A40_12 : A40 0 12 = (A 0 12) := (hj39.2 12 rfl).trans e_A37_12
                    refine va_get (D := (dC, dI)) (ci := 12) (v := .int (iI (A40 0 12))) (C := RX12) (T := TX12) (N := 85) hx hb hts hiX12 hown hK hP 0 wm0 rfl 12 (by decide) (hts _ (List.mem_cons_of_mem _ wlq_4_14)) (fun _ h9 => h9) rfl (dk_at dkX12_searches_5 4 rfl) ?_
                    refine tp_i (y := iI (A 0 12)) (congrArg iI e_A40_12) ?_
                    have a_A3_11 : A3 11 = A 11 := (hj2.1 11 (by decide) rfl)
                    have a_A12_11 : A12 11 = A 11 := by rw [hA12]; exact a_A3_11
                    have a_A15_11 : A15 11 = A 11 := (hj14.1 11 (by decide) rfl).trans a_A12_11
                    have a_A37_11 : A37 11 = A 11 := by rw [hA37]; exact a_A15_11
                    have a_A40_11 : A40 11 = A 11 := (hj39.1 11 (by decide) rfl).trans a_A37_11
                    refine x_iald hx hb hK hP 11 1 wm11 rfl (by omega) (by decide) (dk_at dkX12_searches_5 5 rfl) (fun z75 hz75 => ?_)
                    have rz75 : (0 : Int) ≤ z75 ∧ z75 ≤ 4 := by rw [hz75]; exact hI 11 _
                    have gz75 := Hd.mk hz75
                    have hz75 : z75 = A 11 ((A 0 12)).toNat := hz75.trans (congrFun a_A40_11 _)
                    have J178_77 : ∀ (z82 : Int) (H : Heap) (locs : List Loc) (ls : Array Slot), (0 ≤ z82 ∧ z82 ≤ 6) → (∀ (u : St), (∃ mm1 mm2 mm4 : Nat, (d_X12_searches_6 (fun z38' A40' => d_X12_searches_4 A u mm4 z38' A40') z38 A40 u z82)) → r_X12_searches x1 x2 x3 A u) → va_P (dC, dI) vwCl (WM cI cJ cZ q A40) H → va_S AS s.heap H locs → lv_has ls 5 [(4, .int (iI z38)), (0, .ref (q 0)), (1, .int (iI x1)), (2, .int (iI x2)), (3, .int (iI x3))] → W p l e (headSpec ws_mb_X12_searches ({ frames := 5, cells := 0, slots := 0, locals := 124 } : Room)).room s m [.ref (q 0), .int (iI x1), .int (iI x2), .int (iI x3)].toArray below meth c H locs 0 0 Q (F0 m 178 ls [.int (iI z82), .int (iI z38), .ref (q 49)]) := by
                      intro z82 H locs ls f84 hk6 hP hS hl
                      refine x_iast hx hb hK hP hDD hS 49 1 wm49 rfl (by omega) (by decide) (dk_at dkX12_searches_5 15 rfl) ws49 (fun H locs hP hS => ?_)
                      have hI := hI.st (j := 49) (i := (z38).toNat) (v := z82) (show (0 : Int) ≤ z82 ∧ z82 ≤ 6 from (by omega))
                      refine lv_iinc (v := iI (z38 + 1)) (lv' := [(4, .int (iI (z38 + 1))), (0, .ref (q 0)), (1, .int (iI x1)), (2, .int (iI x2)), (3, .int (iI x3))]) hx hb (dk_at dkX12_searches_6 0 rfl) hl (k := 0) rfl (i_inc (by omega)) (by decide) rfl (fun ls hl => ?_)
                      refine lv_goto (tgt := 137) hx hb (dk_at dkX12_searches_6 1 rfl) (by decide) ?_
                      obtain ⟨A85, hA85⟩ : ∃ A85 : St, A85 = (stA A40 49 (z38).toNat z82) := ⟨_, rfl⟩
                      rw [← hA85] at hP hI
                      exact ih42 _ (by omega) (z38 + 1) _ _ _ _ (by omega) (by omega) (fun uq ⟨mm1, mm2, mm4, hq⟩ => hk6 _ ⟨mm1, mm2, mm4, (u_d_X12_searches_6 ⟨f84, ⟨A85, hA85, hq⟩⟩)⟩) rfl hI (fr_def hA85 (fr.st (fr.trans (fr.rf) hj39 rfl rfl) (by decide) rfl)) hP hS (lv_sub hl [0, 1, 2, 3, 4] rfl)
                    refine lv_icmp_ge (tgt := 177) hx hb (dk_at dkX12_searches_5 6 rfl) (by decide) (fun c76 => ?_) (fun c76 => ?_)
                    · have c76 : z75 ≤ z38 := (i_le (rb rz75 (by decide) (by decide)) (rb f45 (by decide) (by decide))).mp c76
                      refine lv_iconst (v := iI 0) hx hb (dk_at dkX12_searches_5 14 rfl) (by decide +kernel) ?_
                      exact J178_77 0 _ _ _ (by omega) (fun uq ⟨mm1, mm2, mm4, hq⟩ => hk4 _ ⟨mm1, mm2, mm4 + 1, (u_d_X12_searches_4 ⟨gI46.out, ⟨f45, (Or.inr ⟨c47, ⟨z75, gz75.out, (Or.inl ⟨c76, hq⟩)⟩⟩)⟩⟩)⟩) hP hS (lv_sub hl [0, 1, 2, 3, 4] rfl)
                    · have c76 : ¬ z75 ≤ z38 := mt (i_le (rb rz75 (by decide) (by decide)) (rb f45 (by decide) (by decide))).mpr c76
                      refine lv_aload_n hx hb (dk_at dkX12_searches_5 7 rfl) rfl (lv_at hl 1 rfl) ?_
                      refine va_get (D := (dC, dI)) (ci := 12) (v := .ref (q 14)) (C := RX12) (T := TX12) (N := 85) hx hb hts hiX12 hown hK hP 0 wm0 rfl 25 (by decide) (hts _ (List.mem_cons_of_mem _ wlq_2_59)) (fun _ h9 => h9) rfl (dk_at dkX12_searches_5 8 rfl) ?_
                      refine lv_aload_n hx hb (dk_at dkX12_searches_5 9 rfl) rfl (lv_at hl 1 rfl) ?_
                      refine lv_iload hx hb (dk_at dkX12_searches_5 10 rfl) (lv_at hl 0 rfl) ?_
                      refine x_calli (As := [.int (iI z38)]) (rest := [.ref (q 14), .int (iI z38), .ref (q 49)]) ⟨hx, hb, hml, hown, hts⟩ (mc_X12_key4 l dC dI cB cI cJ cZ cQ q _ z38 hI (by omega)) (cwV 1 hts (goodV wlq_4_44 wlq_4_45 wlq_4_46 wlq_0_8 wlq_4_41) rfl rfl rfl (by decide +kernel) ⟨Nat.le_of_ble_eq_true rfl, Nat.le_of_ble_eq_true rfl⟩) hK hDD hA0 hP hS 0 12 wm0 rfl rfl hl.1 (Nat.le_of_ble_eq_true rfl) (dk_at dkX12_searches_5 11 rfl) (fun z78 A79 H locs hw80 hP hS => ?_)
                      obtain ⟨rfl, hw80⟩ := hw80
                      have ghw80 : q_X12_key4 z38 A40 z78 := hw80
                      have hw80 := hw80.2
                      refine tp_i (y := iI (4 * (A 0 12) + z38)) (congrArg iI (show z78 = 4 * (A 0 12) + z38 by omega)) ?_
                      clear hw80
                      have a_A3_14 : A3 14 = A 14 := (hj2.1 14 (by decide) rfl)
                      have a_A12_14 : A12 14 = A 14 := by rw [hA12]; exact a_A3_14
                      have a_A15_14 : A15 14 = A 14 := (hj14.1 14 (by decide) rfl).trans a_A12_14
                      have a_A37_14 : A37 14 = A 14 := by rw [hA37]; exact a_A15_14
                      have a_A40_14 : A40 14 = A 14 := (hj39.1 14 (by decide) rfl).trans a_A37_14
                      refine x_iald hx hb hK hP 14 1 wm14 rfl (by omega) (by decide) (dk_at dkX12_searches_5 12 rfl) (fun z81 hz81 => ?_)
                      have rz81 : (0 : Int) ≤ z81 ∧ z81 ≤ 6 := by rw [hz81]; exact hI 14 _
                      have gz81 := Hd.mk hz81
                      have hz81 : z81 = A 14 (4 * (A 0 12) + z38).toNat := hz81.trans (congrFun a_A40_14 _)
                      refine lv_goto (tgt := 178) hx hb (dk_at dkX12_searches_5 13 rfl) (by decide) ?_
                      exact J178_77 z81 _ _ _ (by omega) (fun uq ⟨mm1, mm2, mm4, hq⟩ => hk4 _ ⟨mm1, mm2, mm4 + 1, (u_d_X12_searches_4 ⟨gI46.out, ⟨f45, (Or.inr ⟨c47, ⟨z75, gz75.out, (Or.inr ⟨c76, ⟨z78, ghw80, ⟨z81, gz81.out, hq⟩⟩⟩)⟩⟩)⟩⟩)⟩) hP hS (lv_sub hl [0, 1, 2, 3, 4] rfl)
              exact L137_41 _ 0 _ _ _ _ (by omega) (by omega) (fun uq ⟨mm1, mm2, mm4, hq⟩ => hk3 _ ⟨mm1, mm2, (u_d_X12_searches_3 ⟨z34, ghw36, ⟨A37, hA37, ⟨mm4, hq⟩⟩⟩)⟩) rfl hI (fr.rf) hP hS (lv_sub hl [0, 1, 2, 3, 4] rfl)
            refine lv_icmp_ge (tgt := 125) hx hb (dk_at dkX12_searches_2 8 rfl) (by decide) (fun c26 => ?_) (fun c26 => ?_)
            · have c26 : 6 * (A 0 12) + z25 ≤ z13 := (i_le (by omega) (rb f21 (by decide) (by decide))).mp c26
              exact J125_27 _ _ _ (fun uq ⟨mm1, mm2, hq⟩ => hk2 _ ⟨mm1, mm2 + 1, (u_d_X12_searches_2 ⟨gI24.out, ⟨f21, ⟨z25, gz25.out, (Or.inl ⟨c26, hq⟩)⟩⟩⟩)⟩) hP hS (lv_sub hl [0, 1, 2, 3, 4] rfl)
            · have c26 : ¬ 6 * (A 0 12) + z25 ≤ z13 := mt (i_le (by omega) (rb f21 (by decide) (by decide))).mpr c26
              refine lv_iload_n hx hb (dk_at dkX12_searches_2 9 rfl) rfl (lv_at hl 4 rfl) ?_
              refine lv_if_eq (tgt := 125) hx hb (dk_at dkX12_searches_2 10 rfl) (by decide) (fun c28 => ?_) (fun c28 => ?_)
              · have c28 : x3 = 0 := (i_eq0 (rb hx3 (by decide) (by decide))).mp c28
                exact J125_27 _ _ _ (fun uq ⟨mm1, mm2, hq⟩ => hk2 _ ⟨mm1, mm2 + 1, (u_d_X12_searches_2 ⟨gI24.out, ⟨f21, ⟨z25, gz25.out, (Or.inr ⟨c26, (Or.inl ⟨c28, hq⟩)⟩)⟩⟩⟩)⟩) hP hS (lv_sub hl [0, 1, 2, 3, 4] rfl)
              · have c28 : ¬ x3 = 0 := mt (i_eq0 (rb hx3 (by decide) (by decide))).mpr c28
                refine lv_aload_n hx hb (dk_at dkX12_searches_2 11 rfl) rfl (lv_at hl 1 rfl) ?_
                refine va_get (D := (dC, dI)) (ci := 12) (v := .ref (q 23)) (C := RX12) (T := TX12) (N := 85) hx hb hts hiX12 hown hK hP 0 wm0 rfl 34 (by decide) (hts _ (List.mem_cons_of_mem _ wlq_3_17)) (fun _ h9 => h9) rfl (dk_at dkX12_searches_2 12 rfl) ?_
                refine lv_iload hx hb (dk_at dkX12_searches_2 13 rfl) (lv_at hl 0 rfl) ?_
                have a_A3_23 : A3 23 = A 23 := (hj2.1 23 (by decide) rfl)
                have a_A12_23 : A12 23 = A 23 := by rw [hA12]; exact a_A3_23
                have a_A15_23 : A15 23 = A 23 := (hj14.1 23 (by decide) rfl).trans a_A12_23
                refine x_iald hx hb hK hP 23 1 wm23 rfl (by omega) (by decide) (dk_at dkX12_searches_2 14 rfl) (fun z29 hz29 => ?_)
                have rz29 : (0 : Int) ≤ z29 ∧ z29 ≤ 2 := by rw [hz29]; exact hI 23 _
                have gz29 := Hd.mk hz29
                have hz29 : z29 = A 23 (z13).toNat := hz29.trans (congrFun a_A15_23 _)
                refine lv_iload_n hx hb (dk_at dkX12_searches_2 15 rfl) rfl (lv_at hl 2 rfl) ?_
                refine lv_icmp_eq (tgt := 93) hx hb (dk_at dkX12_searches_3 0 rfl) (by decide) (fun c30 => ?_) (fun c30 => ?_)
                · have c30 : z29 = x1 := (i_eq (rb rz29 (by decide) (by decide)) (rb hx1 (by decide) (by decide))).mp c30
                  have gw := WI.two hcWI hI0 (k := z13) (p := x1) (by omega) (f23.out (by omega)) (by rw [← hz29]; omega)
                  refine lv_aload_n hx hb (dk_at dkX12_searches_3 2 rfl) rfl (lv_at hl 1 rfl) ?_
                  refine va_get (D := (dC, dI)) (ci := 12) (v := .ref (q 50)) (C := RX12) (T := TX12) (N := 85) hx hb hts hiX12 hown hK hP 0 wm0 rfl 72 (by decide) (hts _ (List.mem_cons_of_mem _ wlq_6_49)) (fun _ h9 => h9) rfl (dk_at dkX12_searches_3 3 rfl) ?_
                  refine lv_aload_n hx hb (dk_at dkX12_searches_3 4 rfl) rfl (lv_at hl 1 rfl) ?_
                  refine va_get (D := (dC, dI)) (ci := 12) (v := .int (iI (A15 0 73))) (C := RX12) (T := TX12) (N := 85) hx hb hts hiX12 hown hK hP 0 wm0 rfl 73 (by decide) (hts _ (List.mem_cons_of_mem _ wlq_6_48)) (fun _ h9 => h9) rfl (dk_at dkX12_searches_3 5 rfl) ?_
                  refine lv_aload_n hx hb (dk_at dkX12_searches_3 6 rfl) rfl (lv_at hl 1 rfl) ?_
                  refine va_get (D := (dC, dI)) (ci := 12) (v := .ref (q 24)) (C := RX12) (T := TX12) (N := 85) hx hb hts hiX12 hown hK hP 0 wm0 rfl 35 (by decide) (hts _ (List.mem_cons_of_mem _ wlq_3_18)) (fun _ h9 => h9) rfl (dk_at dkX12_searches_3 7 rfl) ?_
                  refine lv_iload hx hb (dk_at dkX12_searches_3 8 rfl) (lv_at hl 0 rfl) ?_
                  have a_A3_24 : A3 24 = A 24 := (hj2.1 24 (by decide) rfl)
                  have a_A12_24 : A12 24 = A 24 := by rw [hA12]; exact a_A3_24
                  have a_A15_24 : A15 24 = A 24 := (hj14.1 24 (by decide) rfl).trans a_A12_24
                  refine x_iald hx hb hK hP 24 1 wm24 rfl (by omega) (by decide) (dk_at dkX12_searches_3 9 rfl) (fun z31 hz31 => ?_)
                  have rz31 : (0 : Int) ≤ z31 ∧ z31 ≤ 3 := by rw [hz31]; exact hI 24 _
                  have gz31 := Hd.mk hz31
                  have hz31 : z31 = A 24 (z13).toNat := hz31.trans (congrFun a_A15_24 _)
                  refine x_iast hx hb hK hP hDD hS 50 1 wm50 rfl (by omega) (by decide) (dk_at dkX12_searches_3 10 rfl) ws50 (fun H locs hP hS => ?_)
                  have hI := hI.st (j := 50) (i := ((A15 0 73)).toNat) (v := z31) (show (0 : Int) ≤ z31 ∧ z31 ≤ 3 from (by omega))
                  refine lv_aload_n hx hb (dk_at dkX12_searches_3 11 rfl) rfl (lv_at hl 1 rfl) ?_
                  refine lv_dup hx hb (dk_at dkX12_searches_3 12 rfl) rfl ?_
                  refine va_get (D := (dC, dI)) (ci := 12) (v := .int (iI (A15 0 73))) (C := RX12) (T := TX12) (N := 85) hx hb hts hiX12 hown hK hP 0 wm0 rfl 73 (by decide) (hts _ (List.mem_cons_of_mem _ wlq_6_48)) (fun _ h9 => h9) rfl (dk_at dkX12_searches_3 13 rfl) ?_
                  refine lv_iconst (v := iI 1) hx hb (dk_at dkX12_searches_3 14 rfl) (by decide +kernel) ?_
                  refine x_addv (v := (A15 0 73) + 1) hx hb (dk_at dkX12_searches_3 15 rfl) (by omega) ?_
                  refine x_put (D := (dC, dI)) (ci := 12) (v := .int (iI ((A15 0 73) + 1))) (ty := .int) (C := RX12) (T := TX12) (N := 85) hx hb hts hiX12 tyX12 tyX12_ok nmX12 hown hK hP hDD hS 0 wm0 rfl 73 (by decide) (hts _ (List.mem_cons_of_mem _ wlq_6_48)) (fun _ h9 => h9) rfl (by decide +kernel) rfl rfl (Nat.le_of_ble_eq_true rfl) (dk_at dkX12_searches_4 0 rfl) (wf73 (v := (A15 0 73) + 1)) (fun H locs hP hS => ?_)
                  have hI := hI.st (j := 0) (i := 73) (v := (A15 0 73) + 1) (show (0 : Int) ≤ (A15 0 73) + 1 ∧ (A15 0 73) + 1 ≤ 2 from (by omega))
                  refine lv_iinc (v := iI (z13 + 1)) (lv' := [(4, .int (iI (z13 + 1))), (0, .ref (q 0)), (1, .int (iI x1)), (2, .int (iI x2)), (3, .int (iI x3))]) hx hb (dk_at dkX12_searches_4 1 rfl) hl (k := 0) rfl (i_inc (by omega)) (by decide) rfl (fun ls hl => ?_)
                  refine lv_goto (tgt := 53) hx hb (dk_at dkX12_searches_4 2 rfl) (by decide) ?_
                  obtain ⟨A32, hA32⟩ : ∃ A32 : St, A32 = (stA (stA A15 50 ((A15 0 73)).toNat z31) 0 73 ((A15 0 73) + 1)) := ⟨_, rfl⟩
                  rw [← hA32] at hP hI
                  have e_A32_73 : A32 0 73 = (A15 0 73) + 1 := by rw [hA32]; rfl
                  exact ih18 _ (by omega) (z13 + 1) _ _ _ _ (by omega) (by omega) (by omega) (by exact Hd.mk (fun h => ct_stepI (i := z13) (by omega) (by omega) (f23.out h) (by omega))) (fun uq ⟨mm1, mm2, hq⟩ => hk2 _ ⟨mm1, mm2 + 1, (u_d_X12_searches_2 ⟨gI24.out, ⟨f21, ⟨z25, gz25.out, (Or.inr ⟨c26, (Or.inr ⟨c28, ⟨z29, gz29.out, (Or.inl ⟨c30, ⟨z31, gz31.out, ⟨A32, hA32, hq⟩⟩⟩)⟩⟩)⟩)⟩⟩⟩)⟩) rfl hI (fr_def hA32 (fr.sf (fr.st (fr.trans (fr.rf) hj14 rfl rfl) (by decide) rfl) rfl)) hP hS (lv_sub hl [0, 1, 2, 3, 4] rfl)
                · have c30 : ¬ z29 = x1 := mt (i_eq (rb rz29 (by decide) (by decide)) (rb hx1 (by decide) (by decide))).mpr c30
                  refine lv_goto (tgt := 119) hx hb (dk_at dkX12_searches_3 1 rfl) (by decide) ?_
                  refine lv_iinc (v := iI (z13 + 1)) (lv' := [(4, .int (iI (z13 + 1))), (0, .ref (q 0)), (1, .int (iI x1)), (2, .int (iI x2)), (3, .int (iI x3))]) hx hb (dk_at dkX12_searches_4 1 rfl) hl (k := 0) rfl (i_inc (by omega)) (by decide) rfl (fun ls hl => ?_)
                  refine lv_goto (tgt := 53) hx hb (dk_at dkX12_searches_4 2 rfl) (by decide) ?_
                  exact ih18 _ (by omega) (z13 + 1) _ _ _ _ (by omega) (by omega) (by omega) (by exact Hd.mk (fun h => ct_stepI (i := z13) (by omega) (by omega) (f23.out h) (by omega))) (fun uq ⟨mm1, mm2, hq⟩ => hk2 _ ⟨mm1, mm2 + 1, (u_d_X12_searches_2 ⟨gI24.out, ⟨f21, ⟨z25, gz25.out, (Or.inr ⟨c26, (Or.inr ⟨c28, ⟨z29, gz29.out, (Or.inr ⟨c30, hq⟩)⟩⟩)⟩)⟩⟩⟩)⟩) rfl hI (fr.trans (fr.rf) hj14 rfl rfl) hP hS (lv_sub hl [0, 1, 2, 3, 4] rfl)
        exact L53_17 _ (6 * (A 0 12)) _ _ _ _ (by omega) (by omega) (by omega) (by exact Hd.mk (fun _ => by rw [show 6 * (A 0 12) - 6 * (A 0 12) = 0 by omega]; exact e_A12_73)) (fun uq ⟨mm1, mm2, hq⟩ => hk1 _ ⟨mm1 + 1, (u_d_X12_searches_1 ⟨gI10.out, ⟨f8, (Or.inl ⟨c11, ⟨A12, hA12, ⟨mm2, hq⟩⟩⟩)⟩⟩)⟩) rfl hI (fr.rf) hP hS (lv_sub hl [0, 1, 2, 3, 4] rfl)
      · have c11 : ¬ 76832 ≤ z1 := mt (i_le ⟨by decide, by decide⟩ (rb f8 (by decide) (by decide))).mpr c11
        refine lv_aload_n hx hb (dk_at dkX12_searches_0 5 rfl) rfl (lv_at hl 1 rfl) ?_
        refine va_get (D := (dC, dI)) (ci := 12) (v := .ref (q 47)) (C := RX12) (T := TX12) (N := 85) hx hb hts hiX12 hown hK hP 0 wm0 rfl 64 (by decide) (hts _ (List.mem_cons_of_mem _ wlq_6_51)) (fun _ h9 => h9) rfl (dk_at dkX12_searches_0 6 rfl) ?_
        refine lv_iload hx hb (dk_at dkX12_searches_0 7 rfl) (lv_at hl 0 rfl) ?_
        refine lv_iconst (v := iI (-1)) hx hb (dk_at dkX12_searches_0 8 rfl) (by decide +kernel) ?_
        refine x_iast hx hb hK hP hDD hS 47 1 wm47 rfl (by omega) (by decide) (dk_at dkX12_searches_0 9 rfl) ws47 (fun H locs hP hS => ?_)
        have hI := hI.st (j := 47) (i := (z1).toNat) (v := (-1)) (show (-1 : Int) ≤ (-1) ∧ (-1) ≤ 76832 from (by omega))
        refine lv_iinc (v := iI (z1 + 1)) (lv' := [(4, .int (iI (z1 + 1))), (0, .ref (q 0)), (1, .int (iI x1)), (2, .int (iI x2)), (3, .int (iI x3))]) hx hb (dk_at dkX12_searches_0 10 rfl) hl (k := 0) rfl (i_inc (by omega)) (by decide) rfl (fun ls hl => ?_)
        refine lv_goto (tgt := 3) hx hb (dk_at dkX12_searches_0 11 rfl) (by decide) ?_
        obtain ⟨A86, hA86⟩ : ∃ A86 : St, A86 = (stA A3 47 (z1).toNat (-1)) := ⟨_, rfl⟩
        rw [← hA86] at hP hI
        exact ih5 _ (by omega) (z1 + 1) _ _ _ _ (by omega) (by omega) (by exact Hd.mk (all_step (by omega) f9.out (by rw [hA86]; rfl))) (fun uq ⟨mm1, hq⟩ => hk1 _ ⟨mm1 + 1, (u_d_X12_searches_1 ⟨gI10.out, ⟨f8, (Or.inr ⟨c11, ⟨A86, hA86, hq⟩⟩)⟩⟩)⟩) rfl hI (fr_def hA86 (fr.st (fr.trans (fr.rf) hj2 rfl rfl) (by decide) rfl)) hP hS (lv_sub hl [0, 1, 2, 3, 4] rfl)
  exact L3_4 _ 0 _ _ _ _ (by omega) (by omega) (by exact Hd.mk (fun i hi => by omega)) (fun uq ⟨mm1, hq⟩ => (u_r_X12_searches ⟨mm1, hq⟩)) rfl hI (fr.rf) hP hS (lv_sub hl [0, 1, 2, 3, 4] rfl)
theorem dkX12_placesOf_0 : dkq cX12_placesOf [(0, .aload_n 0, 1), (1, .iload_n 1, 1), (2, .aload_n 0, 1), (3, .iload_n 1, 1), (4, .invokevirtual 526, 3), (7, .iconst 0, 1), (8, .invokevirtual 587, 3), (11, .iconst 0, 1), (12, .istore_n 2, 1), (13, .iconst 0, 1), (14, .istore_n 3, 1), (15, .iload_n 3, 1), (16, .aload_n 0, 1), (17, .getfield 214, 3), (20, .if_icmp .ge 28, 3), (23, .aload_n 0, 1)] = true := by decide +kernel
theorem dkX12_placesOf_1 : dkq cX12_placesOf [(24, .aload_n 0, 1), (25, .getfield 211, 3), (28, .iload_n 3, 1), (29, .iaload, 1), (30, .invokevirtual 581, 3), (33, .iload_n 2, 1), (34, .iconst 1, 1), (35, .aload_n 0, 1), (36, .getfield 217, 3), (39, .ishl, 1), (40, .ior, 1), (41, .istore_n 2, 1), (42, .iinc 3 1, 3), (45, .goto (-30), 3), (48, .iload_n 2, 1), (49, .ireturn, 1)] = true := by decide +kernel
theorem dkX12_person__0 : dkq cX12_person_ [(0, .aload_n 0, 1), (1, .iload_n 1, 1), (2, .invokevirtual 539, 3), (5, .ifCond .ne 5, 3), (8, .iconst (-1), 1), (9, .ireturn, 1), (10, .iload_n 2, 1), (11, .tableswitch 56 0 3 #[29, 35, 41, 50], 29), (40, .aload_n 0, 1), (41, .iload_n 1, 1), (42, .invokevirtual 520, 3), (45, .ireturn, 1), (46, .aload_n 0, 1), (47, .iload_n 1, 1), (48, .invokevirtual 526, 3), (51, .ireturn, 1)] = true := by decide +kernel
theorem dkX12_person__1 : dkq cX12_person_ [(52, .aload_n 0, 1), (53, .iload_n 1, 1), (54, .invokevirtual 591, 3), (57, .invokestatic 529, 3), (60, .ireturn, 1), (61, .aload_n 0, 1), (62, .iload_n 1, 1), (63, .invokevirtual 591, 3), (66, .ireturn, 1), (67, .iconst (-1), 1), (68, .ireturn, 1)] = true := by decide +kernel
theorem dkX12_reach_0 : dkq cX12_reach [(0, .aload_n 0, 1), (1, .iload_n 1, 1), (2, .invokevirtual 539, 3), (5, .ifCond .eq 11, 3), (8, .aload_n 0, 1), (9, .iload_n 2, 1), (10, .invokevirtual 594, 3), (13, .ifCond .ne 5, 3), (16, .iconst (-1), 1), (17, .ireturn, 1), (18, .aload_n 0, 1), (19, .iload_n 1, 1), (20, .aload_n 0, 1), (21, .iload_n 1, 1), (22, .invokevirtual 526, 3), (25, .iconst 0, 1)] = true := by decide +kernel
theorem dkX12_reach_1 : dkq cX12_reach [(26, .invokevirtual 587, 3), (29, .aload_n 0, 1), (30, .iload_n 2, 1), (31, .invokevirtual 597, 3), (34, .ireturn, 1)] = true := by decide +kernel
theorem dkX12_opens__0 : dkq cX12_opens_ [(0, .aload_n 0, 1), (1, .iload_n 1, 1), (2, .invokevirtual 539, 3), (5, .ifCond .eq 11, 3), (8, .aload_n 0, 1), (9, .iload_n 2, 1), (10, .invokevirtual 507, 3), (13, .ifCond .ne 5, 3), (16, .iconst (-1), 1), (17, .ireturn, 1), (18, .aload_n 0, 1), (19, .iload_n 1, 1), (20, .aload_n 0, 1), (21, .iload_n 1, 1), (22, .invokevirtual 526, 3), (25, .iconst 0, 1)] = true := by decide +kernel
theorem dkX12_opens__1 : dkq cX12_opens_ [(26, .invokevirtual 587, 3), (29, .iconst 0, 1), (30, .istore_n 3, 1), (31, .iload_n 3, 1), (32, .aload_n 0, 1), (33, .getfield 214, 3), (36, .if_icmp .ge 39, 3), (39, .aload_n 0, 1), (40, .aload_n 0, 1), (41, .getfield 211, 3), (44, .iload_n 3, 1), (45, .iaload, 1), (46, .invokevirtual 581, 3), (49, .aload_n 0, 1), (50, .iload_n 2, 1), (51, .invokevirtual 567, 3)] = true := by decide +kernel
theorem dkX12_opens__2 : dkq cX12_opens_ [(54, .ifCond .ne 15, 3), (57, .aload_n 0, 1), (58, .getfield 208, 3), (61, .aload_n 0, 1), (62, .getfield 211, 3), (65, .iload_n 3, 1), (66, .iaload, 1), (67, .iaload, 1), (68, .ireturn, 1), (69, .iinc 3 1, 3), (72, .goto (-41), 3), (75, .iconst (-1), 1), (76, .ireturn, 1)] = true := by decide +kernel
theorem dkX12_errands_0 : dkq cX12_errands [(0, .aload_n 0, 1), (1, .iload_n 1, 1), (2, .invokevirtual 539, 3), (5, .ifCond .ne 5, 3), (8, .iconst (-1), 1), (9, .ireturn, 1), (10, .aload_n 0, 1), (11, .iload_n 1, 1), (12, .aload_n 0, 1), (13, .iload_n 1, 1), (14, .invokevirtual 526, 3), (17, .iconst 1, 1), (18, .invokevirtual 587, 3), (21, .iconst 0, 1), (22, .istore_n 2, 1), (23, .iload_n 2, 1)] = true := by decide +kernel
theorem dkX12_errands_1 : dkq cX12_errands [(24, .aload_n 0, 1), (25, .getfield 214, 3), (28, .if_icmp .ge 46, 3), (31, .aload_n 0, 1), (32, .aload_n 0, 1), (33, .getfield 211, 3), (36, .iload_n 2, 1), (37, .iaload, 1), (38, .invokevirtual 581, 3), (41, .aload_n 0, 1), (42, .getfield 223, 3), (45, .iconst 1, 1), (46, .aload_n 0, 1), (47, .getfield 235, 3), (50, .ishl, 1), (51, .iconst 1, 1)] = true := by decide +kernel
theorem dkX12_errands_2 : dkq cX12_errands [(52, .isub, 1), (53, .if_icmp .ne 15, 3), (56, .aload_n 0, 1), (57, .getfield 208, 3), (60, .aload_n 0, 1), (61, .getfield 211, 3), (64, .iload_n 2, 1), (65, .iaload, 1), (66, .iaload, 1), (67, .ireturn, 1), (68, .iinc 2 1, 3), (71, .goto (-48), 3), (74, .iconst (-1), 1), (75, .ireturn, 1)] = true := by decide +kernel
theorem dkX12_lent_0 : dkq cX12_lent [(0, .aload_n 0, 1), (1, .iload_n 1, 1), (2, .invokevirtual 539, 3), (5, .ifCond .eq 20, 3), (8, .aload_n 0, 1), (9, .iload_n 2, 1), (10, .invokevirtual 594, 3), (13, .ifCond .eq 12, 3), (16, .iload_n 3, 1), (17, .iconst 0, 1), (18, .iconst 2, 1), (19, .invokestatic 352, 3), (22, .ifCond .ne 5, 3), (25, .iconst (-1), 1), (26, .ireturn, 1), (27, .aload_n 0, 1)] = true := by decide +kernel
theorem dkX12_lent_1 : dkq cX12_lent [(28, .iload_n 1, 1), (29, .invokevirtual 526, 3), (32, .istore 4, 2), (34, .aload_n 0, 1), (35, .iload_n 1, 1), (36, .iload 4, 2), (38, .iconst 0, 1), (39, .invokevirtual 587, 3), (42, .aload_n 0, 1), (43, .iload_n 2, 1), (44, .invokevirtual 597, 3), (47, .istore 5, 2), (49, .iconst (-1), 1), (50, .istore 6, 2), (52, .iconst (-1), 1), (53, .istore 7, 2)] = true := by decide +kernel
theorem dkX12_lent_2 : dkq cX12_lent [(55, .iconst 0, 1), (56, .istore 8, 2), (58, .iload 8, 2), (60, .aload_n 0, 1), (61, .getfield 80, 3), (64, .aload_n 0, 1), (65, .getfield 48, 3), (68, .iaload, 1), (69, .if_icmp .ge 89, 3), (72, .iload 4, 2), (74, .iload 8, 2), (76, .ishr, 1), (77, .iconst 1, 1), (78, .iand, 1), (79, .iconst 1, 1), (80, .if_icmp .eq 72, 3)] = true := by decide +kernel
theorem dkX12_lent_3 : dkq cX12_lent [(83, .aload_n 0, 1), (84, .getfield 86, 3), (87, .aload_n 0, 1), (88, .iload 8, 2), (90, .invokevirtual 484, 3), (93, .iaload, 1), (94, .bipush 40, 2), (96, .if_icmp .ne 6, 3), (99, .goto 53, 3), (102, .aload_n 0, 1), (103, .iload_n 1, 1), (104, .iload 4, 2), (106, .iconst 1, 1), (107, .iload 8, 2), (109, .ishl, 1), (110, .ior, 1)] = true := by decide +kernel
theorem dkX12_lent_4 : dkq cX12_lent [(111, .iconst 0, 1), (112, .invokevirtual 587, 3), (115, .aload_n 0, 1), (116, .iload_n 2, 1), (117, .invokevirtual 597, 3), (120, .istore 9, 2), (122, .iload 9, 2), (124, .iconst (-1), 1), (125, .if_icmp .eq 27, 3), (128, .iload 6, 2), (130, .iconst (-1), 1), (131, .if_icmp .eq 13, 3), (134, .iload 9, 2), (136, .iload 7, 2), (138, .if_icmp .lt 6, 3), (141, .goto 11, 3)] = true := by decide +kernel
theorem dkX12_lent_5 : dkq cX12_lent [(144, .iload 8, 2), (146, .istore 6, 2), (148, .iload 9, 2), (150, .istore 7, 2), (152, .iinc 8 1, 3), (155, .goto (-97), 3), (158, .iload 6, 2), (160, .iconst (-1), 1), (161, .if_icmp .ne 5, 3), (164, .iconst (-1), 1), (165, .ireturn, 1), (166, .iload_n 3, 1), (167, .ifCond .ne 8, 3), (170, .iload 6, 2), (172, .goto 28, 3), (175, .iload_n 3, 1)] = true := by decide +kernel
theorem dkX12_lent_6 : dkq cX12_lent [(176, .iconst 1, 1), (177, .if_icmp .ne 8, 3), (180, .iload 7, 2), (182, .goto 18, 3), (185, .iload 5, 2), (187, .iconst (-1), 1), (188, .if_icmp .ne 7, 3), (191, .iconst (-1), 1), (192, .goto 8, 3), (195, .iload 5, 2), (197, .iload 7, 2), (199, .isub, 1), (200, .ireturn, 1)] = true := by decide +kernel
theorem dkX12_isLockedIn_0 : dkq cX12_isLockedIn [(0, .iconst 0, 1), (1, .istore_n 2, 1), (2, .iconst 0, 1), (3, .istore_n 3, 1), (4, .iload_n 3, 1), (5, .aload_n 0, 1), (6, .getfield 58, 3), (9, .aload_n 0, 1), (10, .getfield 48, 3), (13, .iaload, 1), (14, .if_icmp .ge 45, 3), (17, .iload_n 2, 1), (18, .ifCond .ne 29, 3), (21, .aload_n 0, 1), (22, .getfield 70, 3), (25, .aload_n 0, 1)] = true := by decide +kernel
theorem dkX12_isLockedIn_1 : dkq cX12_isLockedIn [(26, .iload_n 3, 1), (27, .invokevirtual 487, 3), (30, .baload, 1), (31, .ifCond .ne 20, 3), (34, .aload_n 0, 1), (35, .aload_n 0, 1), (36, .iload_n 1, 1), (37, .invokevirtual 520, 3), (40, .iload_n 3, 1), (41, .invokevirtual 523, 3), (44, .ifCond .eq 7, 3), (47, .iconst 1, 1), (48, .goto 4, 3), (51, .iconst 0, 1), (52, .istore_n 2, 1), (53, .iinc 3 1, 3)] = true := by decide +kernel
theorem dkX12_isLockedIn_2 : dkq cX12_isLockedIn [(56, .goto (-52), 3), (59, .iload_n 2, 1), (60, .ifCond .eq 19, 3), (63, .aload_n 0, 1), (64, .iload_n 1, 1), (65, .invokevirtual 591, 3), (68, .invokestatic 529, 3), (71, .iconst 1, 1), (72, .if_icmp .ne 7, 3), (75, .iconst 1, 1), (76, .goto 4, 3), (79, .iconst 0, 1), (80, .ireturn, 1)] = true := by decide +kernel
theorem dkX12_locked_0 : dkq cX12_locked [(0, .iconst 0, 1), (1, .istore_n 1, 1), (2, .iconst 0, 1), (3, .istore_n 2, 1), (4, .iload_n 2, 1), (5, .aload_n 0, 1), (6, .getfield 95, 3), (9, .aload_n 0, 1), (10, .getfield 48, 3), (13, .iaload, 1), (14, .if_icmp .ge 27, 3), (17, .iload_n 1, 1), (18, .aload_n 0, 1), (19, .iload_n 2, 1), (20, .invokevirtual 600, 3), (23, .ifCond .eq 9, 3)] = true := by decide +kernel
theorem dkX12_locked_1 : dkq cX12_locked [(26, .iconst 1, 1), (27, .iload_n 2, 1), (28, .ishl, 1), (29, .goto 4, 3), (32, .iconst 0, 1), (33, .ior, 1), (34, .istore_n 1, 1), (35, .iinc 2 1, 3), (38, .goto (-34), 3), (41, .iload_n 1, 1), (42, .ireturn, 1)] = true := by decide +kernel
