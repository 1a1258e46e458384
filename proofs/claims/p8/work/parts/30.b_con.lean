abbrev tr_r_X12_is (x1 : Int) (x2 : Int) (x3 : Int) (A : St) (z : Int) : Prop := (((x1 < x2) ∧ (z = 0)) ∨ ((¬ x1 < x2) ∧ (((x3 < x1) ∧ (z = 0)) ∨ ((¬ x3 < x1) ∧ (z = 1)))))
def r_X12_is (x1 : Int) (x2 : Int) (x3 : Int) (A : St) (z : Int) : Prop := tr_r_X12_is x1 x2 x3 A z
theorem u_r_X12_is {x1 : Int} {x2 : Int} {x3 : Int} {A : St} {z : Int} (h : tr_r_X12_is x1 x2 x3 A z) : r_X12_is x1 x2 x3 A z := h
def q_X12_is (x1 : Int) (x2 : Int) (x3 : Int) (A : St) (z : Int) : Prop := r_X12_is x1 x2 x3 A z ∧ ((0 ≤ z ∧ z ≤ 1) ∧ (z = 1 ↔ x2 ≤ x1 ∧ x1 ≤ x3))
def ws_mc_X12_is : List Cond := .code yX12_is cX12_is 3 (some .boolean) :: WX
set_option maxHeartbeats 4000000 in
set_option maxRecDepth 100000 in
theorem mc_X12_is (l : Launch) (dC : Nat → ClassId) (dI : Nat → Nat → Nat) (cB cI cJ cZ cQ : ClassId) (q : Nat → Nat) (A : St) (x1 x2 x3 : Int) (hI : IM A) (hx1 : (-2147483648 : Int) ≤ x1 ∧ x1 ≤ 2147483647) (hx2 : (-2147483648 : Int) ≤ x2 ∧ x2 ≤ 2147483647) (hx3 : (-2147483648 : Int) ≤ x3 ∧ x3 ≤ 2147483647) : XMi l yX12_is ws_mc_X12_is ({ frames := 0, cells := 0, slots := 0, locals := 0 } : Room) (dC, dI) (tyA cB cI cJ cZ cQ) (WM cI cJ cZ q) A [.int (iI x1), .int (iI x2), .int (iI x3)] (fun z u => A = u ∧ r_X12_is x1 x2 x3 A z ∧ ((0 ≤ z ∧ z ≤ 1) ∧ (z = 1 ↔ x2 ≤ x1 ∧ x1 ≤ x3))) := by
  refine x_metz (cc := cX12_is) (maxL := 3) WM_adr (by decide +kernel) rfl (Nat.le_of_ble_eq_true rfl) (fun z u h => h.2.2.1) (fun p e s m below meth c Q AS ls hx hb hml hown hts hK hDD hA0 hP hS hl RET => ?_)
  have hown : s.vm.findClass RX12 = some m.cls := hown
  have hl : lv_has ls 3 [(0, .int (iI x1)), (1, .int (iI x2)), (2, .int (iI x3))] := hl
  obtain ⟨H, hHe⟩ : ∃ H : Heap, H = s.heap := ⟨_, rfl⟩
  rw [← hHe] at hP
  have hS : va_S AS s.heap H [] := by rw [hHe]; exact hS
  suffices hgo : ∀ locs : List Loc, va_S AS s.heap H locs → W p l e (headSpec ws_mc_X12_is ({ frames := 0, cells := 0, slots := 0, locals := 0 } : Room)).room s m [.int (iI x1), .int (iI x2), .int (iI x3)].toArray below meth c H locs 0 0 Q (F0 m 0 ls []) by
    have := hgo [] hS
    rw [hHe] at this
    exact this
  clear hS hHe
  intro locs hS
  refine lv_iload_n hx hb dX12_is_0 rfl (lv_at hl 0 rfl) ?_
  refine lv_iload_n hx hb dX12_is_1 rfl (lv_at hl 1 rfl) ?_
  refine lv_icmp_lt (tgt := 14) hx hb dX12_is_2 (by decide) (fun c1 => ?_) (fun c1 => ?_)
  · have c1 : x1 < x2 := (i_lt hx1 hx2).mp c1
    refine lv_iconst (v := iI 0) hx hb dX12_is_14 (by decide +kernel) ?_
    exact RET 0 _ _ _ _ _ ⟨rfl, (u_r_X12_is (Or.inl ⟨c1, rfl⟩)), by omega⟩ hP hS dX12_is_15
  · have c1 : ¬ x1 < x2 := mt (i_lt hx1 hx2).mpr c1
    refine lv_iload_n hx hb dX12_is_5 rfl (lv_at hl 0 rfl) ?_
    refine lv_iload_n hx hb dX12_is_6 rfl (lv_at hl 2 rfl) ?_
    refine lv_icmp_gt (tgt := 14) hx hb dX12_is_7 (by decide) (fun c2 => ?_) (fun c2 => ?_)
    · have c2 : x3 < x1 := (i_lt hx3 hx1).mp c2
      refine lv_iconst (v := iI 0) hx hb dX12_is_14 (by decide +kernel) ?_
      exact RET 0 _ _ _ _ _ ⟨rfl, (u_r_X12_is (Or.inr ⟨c1, (Or.inl ⟨c2, rfl⟩)⟩)), by omega⟩ hP hS dX12_is_15
    · have c2 : ¬ x3 < x1 := mt (i_lt hx3 hx1).mpr c2
      refine lv_iconst (v := iI 1) hx hb dX12_is_10 (by decide +kernel) ?_
      refine lv_goto (tgt := 15) hx hb dX12_is_11 (by decide) ?_
      exact RET 1 _ _ _ _ _ ⟨rfl, (u_r_X12_is (Or.inr ⟨c1, (Or.inr ⟨c2, rfl⟩)⟩)), by omega⟩ hP hS dX12_is_15

abbrev tr_d_X12_put_1 (x1 : Int) (u : St) (K1 : Int → St → Prop) (z1 : Int) (A3 : St) : Prop := ((IM A3) ∧ ((-2147483648 ≤ z1 ∧ z1 ≤ 24) ∧ (((z1 < 0) ∧ (u = A3)) ∨ ((¬ z1 < 0) ∧ (∃ z13 : Int, z13 = oShr x1 z1 ∧ (∃ z14 : Int, z14 = oAnd z13 255 ∧ (∃ A15 : St, A15 = (stA (stA A3 1 ((A3 0 1)).toNat z14) 0 1 ((A3 0 1) + 1)) ∧ (K1 (z1 - 8) A15))))))))
def d_X12_put_1 (x1 : Int) (u : St) : Nat → Int → St → Prop
  | 0, _, _ => False
  | nn9 + 1, z1, A3 => tr_d_X12_put_1 x1 u (fun z1 A3 => d_X12_put_1 x1 u nn9 z1 A3) z1 A3
theorem u_d_X12_put_1 {x1 : Int} {u : St} {nn9 : Nat} {z1 : Int} {A3 : St} (h : tr_d_X12_put_1 x1 u (fun z1 A3 => d_X12_put_1 x1 u nn9 z1 A3) z1 A3) : d_X12_put_1 x1 u (nn9 + 1) z1 A3 := h
abbrev tr_r_X12_put (x1 : Int) (A : St) (u : St) : Prop := (∃ nn9 : Nat, d_X12_put_1 x1 u nn9 24 A)
def r_X12_put (x1 : Int) (A : St) (u : St) : Prop := tr_r_X12_put x1 A u
theorem u_r_X12_put {x1 : Int} {A : St} {u : St} (h : tr_r_X12_put x1 A u) : r_X12_put x1 A u := h
def q_X12_put (x1 : Int) (A : St) (u : St) : Prop := r_X12_put x1 A u ∧ IM u ∧ fr [1] [1] A u ∧ (u 0 1 = A 0 1 + 4)
def ws_mc_X12_put : List Cond := .code yX12_put cX12_put 3 none :: WX
set_option maxHeartbeats 4000000 in
set_option maxRecDepth 100000 in
theorem mc_X12_put (l : Launch) (dC : Nat → ClassId) (dI : Nat → Nat → Nat) (cB cI cJ cZ cQ : ClassId) (q : Nat → Nat) (A : St) (x1 : Int) (hI : IM A) (hx1 : (-2147483648 : Int) ≤ x1 ∧ x1 ≤ 2147483647) (hp0 : A 0 1 + 4 ≤ 1600) : XMv l yX12_put ws_mc_X12_put ({ frames := 0, cells := 0, slots := 0, locals := 0 } : Room) (dC, dI) (tyA cB cI cJ cZ cQ) (WM cI cJ cZ q) A [.ref (q 0), .int (iI x1)] (fun u => r_X12_put x1 A u ∧ IM u ∧ fr [1] [1] A u ∧ (u 0 1 = A 0 1 + 4)) := by
  refine x_metv (cc := cX12_put) (maxL := 3) WM_adr (by decide +kernel) rfl (Nat.le_of_ble_eq_true rfl) (fun p e s m below meth c Q AS ls hx hb hml hown hts hK hDD hA0 hP hS hl RET => ?_)
  have hown : s.vm.findClass RX12 = some m.cls := hown
  have hl : lv_has ls 3 [(0, .ref (q 0)), (1, .int (iI x1))] := hl
  have hiX12 : ∀ w ∈ u_ws RX12 TX12 85, w ∈ ws_mc_X12_put := fun w h => List.mem_cons_of_mem _ (wx_lay w h)
  obtain ⟨H, hHe⟩ : ∃ H : Heap, H = s.heap := ⟨_, rfl⟩
  rw [← hHe] at hP
  have hS : va_S AS s.heap H [] := by rw [hHe]; exact hS
  suffices hgo : ∀ locs : List Loc, va_S AS s.heap H locs → W p l e (headSpec ws_mc_X12_put ({ frames := 0, cells := 0, slots := 0, locals := 0 } : Room)).room s m [.ref (q 0), .int (iI x1)].toArray below meth c H locs 0 0 Q (F0 m 0 ls []) by
    have := hgo [] hS
    rw [hHe] at this
    exact this
  clear hS hHe
  intro locs hS
  refine lv_bipush (v := iI 24) hx hb dX12_put_0 (by decide +kernel) ?_
  refine lv_istore_n (lv' := [(2, .int (iI 24)), (0, .ref (q 0)), (1, .int (iI x1))]) hx hb dX12_put_2 rfl hl (by decide) rfl (fun ls hl => ?_)
  have L3_4 : ∀ (n6 : Nat) (z1 : Int) (A3 : St) (H : Heap) (locs : List Loc) (ls : Array Slot), (z1 ≤ 24) → (-2147483648 ≤ z1 ∧ z1 ≤ 24) → (8 * ((A3 0 1) - A 0 1) = 24 - z1) → (-8 ≤ z1) → (∀ (u : St), (∃ mm1 : Nat, (d_X12_put_1 x1 u mm1 z1 A3)) → r_X12_put x1 A u) → ((z1 - 0 + 1).toNat = n6) → IM A3 → fr [1] [1] A A3 → va_P (dC, dI) vwCl (WM cI cJ cZ q A3) H → va_S AS s.heap H locs → lv_has ls 3 [(2, .int (iI z1)), (0, .ref (q 0)), (1, .int (iI x1))] → W p l e (headSpec ws_mc_X12_put ({ frames := 0, cells := 0, slots := 0, locals := 0 } : Room)).room s m [.ref (q 0), .int (iI x1)].toArray below meth c H locs 0 0 Q (F0 m 3 ls []) := by
    intro n6
    induction n6 using Nat.strongRecOn with
    | ind n6 ih5 =>
      intro z1 A3 H locs ls f7 f8 f9 f10 hk1 hn6 hI hj2 hP hS hl
      have gI11 : Hd (IM A3) := Hd.mk hI
      refine lv_iload_n hx hb dX12_put_3 rfl (lv_at hl 0 rfl) ?_
      refine lv_if_lt (tgt := 39) hx hb dX12_put_4 (by decide) (fun c12 => ?_) (fun c12 => ?_)
      · have c12 : z1 < 0 := (i_lt0 (rb f8 (by decide) (by decide))).mp c12
        have r_A3_0_1 : (0 : Int) ≤ (A3 0 1) ∧ (A3 0 1) ≤ 1600 := hI 0 1
        exact RET _ _ _ _ _ ⟨hk1 _ ⟨0 + 1, (u_d_X12_put_1 ⟨gI11.out, ⟨f8, (Or.inl ⟨c12, rfl⟩)⟩⟩)⟩, hI, fr.trans (fr.rf) hj2 rfl rfl, by omega⟩ hP hS dX12_put_39
      · have c12 : ¬ z1 < 0 := mt (i_lt0 (rb f8 (by decide) (by decide))).mpr c12
        refine lv_aload_n hx hb dX12_put_7 rfl (lv_at hl 1 rfl) ?_
        refine va_get (D := (dC, dI)) (ci := 12) (v := .ref (q 1)) (C := RX12) (T := TX12) (N := 85) hx hb hts hiX12 hown hK hP 0 wm0 rfl 0 (by decide) (hts _ (List.mem_cons_of_mem _ (wl_in_0 _ (List.mem_of_getElem? (i := 2) rfl)))) (fun _ h9 => h9) rfl dX12_put_8 ?_
        refine lv_aload_n hx hb dX12_put_11 rfl (lv_at hl 1 rfl) ?_
        refine va_get (D := (dC, dI)) (ci := 12) (v := .int (iI (A3 0 1))) (C := RX12) (T := TX12) (N := 85) hx hb hts hiX12 hown hK hP 0 wm0 rfl 1 (by decide) (hts _ (List.mem_cons_of_mem _ (wl_in_0 _ (List.mem_of_getElem? (i := 3) rfl)))) (fun _ h9 => h9) rfl dX12_put_12 ?_
        have r_A3_0_1 : (0 : Int) ≤ (A3 0 1) ∧ (A3 0 1) ≤ 1600 := hI 0 1
        refine lv_iload_n hx hb dX12_put_15 rfl (lv_at hl 2 rfl) ?_
        refine lv_iload_n hx hb dX12_put_16 rfl (lv_at hl 0 rfl) ?_
        refine lv_ishr hx hb dX12_put_17 ?_
        refine x_absE (fun z13 gz13 hz13 => ?_)
        refine lv_sipush (v := iI 255) hx hb dX12_put_18 (by decide +kernel) ?_
        refine lv_iand hx hb dX12_put_21 ?_
        refine x_andE (b := 255) (by omega) (fun z14 gz14 hz14 => ?_)
        refine x_iast hx hb hK hP hDD hS 1 1 wm1 rfl (by omega) (by decide) dX12_put_22 ws1 (fun H locs hP hS => ?_)
        have hI := hI.st (j := 1) (i := ((A3 0 1)).toNat) (v := z14) (show (0 : Int) ≤ z14 ∧ z14 ≤ 255 from (by omega))
        refine lv_aload_n hx hb dX12_put_23 rfl (lv_at hl 1 rfl) ?_
        refine lv_dup hx hb dX12_put_24 rfl ?_
        refine va_get (D := (dC, dI)) (ci := 12) (v := .int (iI (A3 0 1))) (C := RX12) (T := TX12) (N := 85) hx hb hts hiX12 hown hK hP 0 wm0 rfl 1 (by decide) (hts _ (List.mem_cons_of_mem _ (wl_in_0 _ (List.mem_of_getElem? (i := 3) rfl)))) (fun _ h9 => h9) rfl dX12_put_25 ?_
        refine lv_iconst (v := iI 1) hx hb dX12_put_28 (by decide +kernel) ?_
        refine x_addv (v := (A3 0 1) + 1) hx hb dX12_put_29 (by omega) ?_
        refine x_put (D := (dC, dI)) (ci := 12) (v := .int (iI ((A3 0 1) + 1))) (ty := .int) (C := RX12) (T := TX12) (N := 85) hx hb hts hiX12 tyX12 tyX12_ok nmX12 hown hK hP hDD hS 0 wm0 rfl 1 (by decide) (hts _ (List.mem_cons_of_mem _ (wl_in_0 _ (List.mem_of_getElem? (i := 3) rfl)))) (fun _ h9 => h9) rfl (by decide +kernel) rfl rfl (Nat.le_of_ble_eq_true rfl) dX12_put_30 (wf1 (v := (A3 0 1) + 1)) (fun H locs hP hS => ?_)
        have hI := hI.st (j := 0) (i := 1) (v := (A3 0 1) + 1) (show (0 : Int) ≤ (A3 0 1) + 1 ∧ (A3 0 1) + 1 ≤ 1600 from (by omega))
        refine lv_iinc (v := iI (z1 - 8)) (lv' := [(2, .int (iI (z1 - 8))), (0, .ref (q 0)), (1, .int (iI x1))]) hx hb dX12_put_33 hl (k := 0) rfl (i_inc (by omega)) (by decide) rfl (fun ls hl => ?_)
        refine lv_goto (tgt := 3) hx hb dX12_put_36 (by decide) ?_
        obtain ⟨A15, hA15⟩ : ∃ A15 : St, A15 = (stA (stA A3 1 ((A3 0 1)).toNat z14) 0 1 ((A3 0 1) + 1)) := ⟨_, rfl⟩
        rw [← hA15] at hP hI
        have e_A15_1 : A15 0 1 = (A3 0 1) + 1 := by rw [hA15]; rfl
        exact ih5 _ (by omega) (z1 - 8) _ _ _ _ (by omega) (by omega) (by omega) (by omega) (fun uq ⟨mm1, hq⟩ => hk1 _ ⟨mm1 + 1, (u_d_X12_put_1 ⟨gI11.out, ⟨f8, (Or.inr ⟨c12, ⟨z13, gz13.out, ⟨z14, gz14.out, ⟨A15, hA15, hq⟩⟩⟩⟩)⟩⟩)⟩) rfl hI (fr_def hA15 (fr.sf (fr.st (fr.trans (fr.rf) hj2 rfl rfl) (by decide) rfl) rfl)) hP hS (lv_sub hl [0, 1, 2] rfl)
  have r_A_0_1 : (0 : Int) ≤ (A 0 1) ∧ (A 0 1) ≤ 1600 := hI 0 1
  exact L3_4 _ 24 _ _ _ _ (by omega) (by omega) (by omega) (by omega) (fun uq ⟨mm1, hq⟩ => (u_r_X12_put ⟨mm1, hq⟩)) rfl hI (fr.rf) hP hS (lv_sub hl [0, 1, 2] rfl)

abbrev tr_r_X12_refuses (x1 : Int) (A : St) (z : Int) (u : St) : Prop := (∃ z1 : Int, z1 = A 41 (x1).toNat ∧ (∃ z2 : Int, z2 = oWrap (z1 + 1) ∧ (z = (-1) ∧ u = (stA A 41 (x1).toNat z2))))
def r_X12_refuses (x1 : Int) (A : St) (z : Int) (u : St) : Prop := tr_r_X12_refuses x1 A z u
theorem u_r_X12_refuses {x1 : Int} {A : St} {z : Int} {u : St} (h : tr_r_X12_refuses x1 A z u) : r_X12_refuses x1 A z u := h
def q_X12_refuses (x1 : Int) (A : St) (z : Int) (u : St) : Prop := r_X12_refuses x1 A z u ∧ IM u ∧ fr [41] [] A u ∧ (z = -1)
def ws_mc_X12_refuses : List Cond := .code yX12_refuses cX12_refuses 2 (some .int) :: WX
set_option maxHeartbeats 4000000 in
set_option maxRecDepth 100000 in
theorem mc_X12_refuses (l : Launch) (dC : Nat → ClassId) (dI : Nat → Nat → Nat) (cB cI cJ cZ cQ : ClassId) (q : Nat → Nat) (A : St) (x1 : Int) (hI : IM A) (hx1 : (0 : Int) ≤ x1 ∧ x1 ≤ 5) : XMi l yX12_refuses ws_mc_X12_refuses ({ frames := 0, cells := 0, slots := 0, locals := 0 } : Room) (dC, dI) (tyA cB cI cJ cZ cQ) (WM cI cJ cZ q) A [.ref (q 0), .int (iI x1)] (fun z u => r_X12_refuses x1 A z u ∧ IM u ∧ fr [41] [] A u ∧ (z = -1)) := by
  refine x_meti (cc := cX12_refuses) (maxL := 2) WM_adr (by decide +kernel) rfl (Nat.le_of_ble_eq_true rfl) (fun p e s m below meth c Q AS ls hx hb hml hown hts hK hDD hA0 hP hS hl RET => ?_)
  have hown : s.vm.findClass RX12 = some m.cls := hown
  have hl : lv_has ls 2 [(0, .ref (q 0)), (1, .int (iI x1))] := hl
  have hiX12 : ∀ w ∈ u_ws RX12 TX12 85, w ∈ ws_mc_X12_refuses := fun w h => List.mem_cons_of_mem _ (wx_lay w h)
  obtain ⟨H, hHe⟩ : ∃ H : Heap, H = s.heap := ⟨_, rfl⟩
  rw [← hHe] at hP
  have hS : va_S AS s.heap H [] := by rw [hHe]; exact hS
  suffices hgo : ∀ locs : List Loc, va_S AS s.heap H locs → W p l e (headSpec ws_mc_X12_refuses ({ frames := 0, cells := 0, slots := 0, locals := 0 } : Room)).room s m [.ref (q 0), .int (iI x1)].toArray below meth c H locs 0 0 Q (F0 m 0 ls []) by
    have := hgo [] hS
    rw [hHe] at this
    exact this
  clear hS hHe
  intro locs hS
  refine lv_aload_n hx hb dX12_refuses_0 rfl (lv_at hl 0 rfl) ?_
  refine va_get (D := (dC, dI)) (ci := 12) (v := .ref (q 41)) (C := RX12) (T := TX12) (N := 85) hx hb hts hiX12 hown hK hP 0 wm0 rfl 58 (by decide) (hts _ (List.mem_cons_of_mem _ (wl_in_0 _ (List.mem_of_getElem? (i := 10) rfl)))) (fun _ h9 => h9) rfl dX12_refuses_1 ?_
  refine lv_iload_n hx hb dX12_refuses_4 rfl (lv_at hl 1 rfl) ?_
  refine lv_dup2_11 hx hb dX12_refuses_5 rfl rfl ?_
  refine x_iald hx hb hK hP 41 1 wm41 rfl (by omega) (by decide) dX12_refuses_6 (fun z1 hz1 => ?_)
  have rz1 : (-2147483648 : Int) ≤ z1 ∧ z1 ≤ 2147483647 := by rw [hz1]; exact hI 41 _
  have gz1 := Hd.mk hz1
  have hz1 : z1 = A 41 (x1).toNat := hz1
  refine lv_iconst (v := iI 1) hx hb dX12_refuses_7 (by decide +kernel) ?_
  refine x_addv (v := z1 + 1) hx hb dX12_refuses_8 (by omega) ?_
  refine x_absE (fun z2 gz2 hz2 => ?_)
  refine x_iast hx hb hK hP hDD hS 41 1 wm41 rfl (by omega) (by decide) dX12_refuses_9 ws41 (fun H locs hP hS => ?_)
  have hI := hI.st (j := 41) (i := (x1).toNat) (v := z2) (show (-2147483648 : Int) ≤ z2 ∧ z2 ≤ 2147483647 from (by omega))
  refine lv_iconst (v := iI (-1)) hx hb dX12_refuses_10 (by decide +kernel) ?_
  exact RET (-1) _ _ _ _ _ ⟨(u_r_X12_refuses ⟨z1, gz1.out, ⟨z2, gz2.out, ⟨rfl, rfl⟩⟩⟩), hI, fr.st (fr.rf) (by decide) rfl, by omega⟩ hP hS dX12_refuses_11

abbrev tr_r_X12_feed (x1 : Int) (x2 : Int) (x3 : Int) (x4 : Int) (x5 : Int) (A : St) (z : Int) (u : St) : Prop := ((((A 0 1) + 20 ≤ 1600) ∧ (∃ A2 : St, q_X12_put x1 A A2 ∧ (∃ A5 : St, q_X12_put x2 A2 A5 ∧ (∃ A8 : St, q_X12_put x3 A5 A8 ∧ (∃ A11 : St, q_X12_put x4 A8 A11 ∧ (∃ A14 : St, q_X12_put x5 A11 A14 ∧ (z = (A14 0 1) ∧ u = A14))))))) ∨ ((¬ (A 0 1) + 20 ≤ 1600) ∧ (∃ z17 : Int, ∃ A18 : St, q_X12_refuses 0 A z17 A18 ∧ (z = z17 ∧ u = A18))))
def r_X12_feed (x1 : Int) (x2 : Int) (x3 : Int) (x4 : Int) (x5 : Int) (A : St) (z : Int) (u : St) : Prop := tr_r_X12_feed x1 x2 x3 x4 x5 A z u
theorem u_r_X12_feed {x1 : Int} {x2 : Int} {x3 : Int} {x4 : Int} {x5 : Int} {A : St} {z : Int} {u : St} (h : tr_r_X12_feed x1 x2 x3 x4 x5 A z u) : r_X12_feed x1 x2 x3 x4 x5 A z u := h
def ws_mc_X12_feed : List Cond := .code yX12_feed cX12_feed 6 (some .int) :: WX
set_option maxHeartbeats 4000000 in
set_option maxRecDepth 100000 in
theorem mc_X12_feed (l : Launch) (dC : Nat → ClassId) (dI : Nat → Nat → Nat) (cB cI cJ cZ cQ : ClassId) (q : Nat → Nat) (A : St) (x1 x2 x3 x4 x5 : Int) (hI : IM A) (hx1 : (-2147483648 : Int) ≤ x1 ∧ x1 ≤ 2147483647) (hx2 : (-2147483648 : Int) ≤ x2 ∧ x2 ≤ 2147483647) (hx3 : (-2147483648 : Int) ≤ x3 ∧ x3 ≤ 2147483647) (hx4 : (-2147483648 : Int) ≤ x4 ∧ x4 ≤ 2147483647) (hx5 : (-2147483648 : Int) ≤ x5 ∧ x5 ≤ 2147483647) : XMi l yX12_feed ws_mc_X12_feed ({ frames := 1, cells := 0, slots := 0, locals := 22 } : Room) (dC, dI) (tyA cB cI cJ cZ cQ) (WM cI cJ cZ q) A [.ref (q 0), .int (iI x1), .int (iI x2), .int (iI x3), .int (iI x4), .int (iI x5)] (fun z u => r_X12_feed x1 x2 x3 x4 x5 A z u ∧ IM u ∧ fr [1, 41] [1] A u ∧ ((1600 < A 0 1 + 20 ∧ z = -1 ∧ u 0 1 = A 0 1) ∨ (A 0 1 + 20 ≤ 1600 ∧ z = u 0 1 ∧ u 0 1 = A 0 1 + 20))) := by
  refine x_meti (cc := cX12_feed) (maxL := 6) WM_adr (by decide +kernel) rfl (Nat.le_of_ble_eq_true rfl) (fun p e s m below meth c Q AS ls hx hb hml hown hts hK hDD hA0 hP hS hl RET => ?_)
  have hown : s.vm.findClass RX12 = some m.cls := hown
  have hl : lv_has ls 6 [(0, .ref (q 0)), (1, .int (iI x1)), (2, .int (iI x2)), (3, .int (iI x3)), (4, .int (iI x4)), (5, .int (iI x5))] := hl
  have hiX12 : ∀ w ∈ u_ws RX12 TX12 85, w ∈ ws_mc_X12_feed := fun w h => List.mem_cons_of_mem _ (wx_lay w h)
  obtain ⟨H, hHe⟩ : ∃ H : Heap, H = s.heap := ⟨_, rfl⟩
  rw [← hHe] at hP
  have hS : va_S AS s.heap H [] := by rw [hHe]; exact hS
  suffices hgo : ∀ locs : List Loc, va_S AS s.heap H locs → W p l e (headSpec ws_mc_X12_feed ({ frames := 1, cells := 0, slots := 0, locals := 22 } : Room)).room s m [.ref (q 0), .int (iI x1), .int (iI x2), .int (iI x3), .int (iI x4), .int (iI x5)].toArray below meth c H locs 0 0 Q (F0 m 0 ls []) by
    have := hgo [] hS
    rw [hHe] at this
    exact this
  clear hS hHe
  intro locs hS
  refine lv_aload_n hx hb dX12_feed_0 rfl (lv_at hl 0 rfl) ?_
  refine va_get (D := (dC, dI)) (ci := 12) (v := .int (iI (A 0 1))) (C := RX12) (T := TX12) (N := 85) hx hb hts hiX12 hown hK hP 0 wm0 rfl 1 (by decide) (hts _ (List.mem_cons_of_mem _ (wl_in_0 _ (List.mem_of_getElem? (i := 3) rfl)))) (fun _ h9 => h9) rfl dX12_feed_1 ?_
  have r_A_0_1 : (0 : Int) ≤ (A 0 1) ∧ (A 0 1) ≤ 1600 := hI 0 1
  refine lv_bipush (v := iI 20) hx hb dX12_feed_4 (by decide +kernel) ?_
  refine x_addv (v := (A 0 1) + 20) hx hb dX12_feed_6 (by omega) ?_
  refine lv_sipush (v := iI 1600) hx hb dX12_feed_7 (by decide +kernel) ?_
  refine lv_icmp_le (tgt := 19) hx hb dX12_feed_10 (by decide) (fun c1 => ?_) (fun c1 => ?_)
  · have c1 : (A 0 1) + 20 ≤ 1600 := (i_le (by omega) ⟨by decide, by decide⟩).mp c1
    refine lv_aload_n hx hb dX12_feed_19 rfl (lv_at hl 0 rfl) ?_
    refine lv_iload_n hx hb dX12_feed_20 rfl (lv_at hl 1 rfl) ?_
    refine x_callv (As := [.int (iI x1)]) (rest := []) ⟨hx, hb, hml, hown, hts⟩ (mc_X12_put l dC dI cB cI cJ cZ cQ q _ x1 hI hx1 (by omega)) (cwV 1 hts (goodV (wl_in_0 _ (List.mem_of_getElem? (i := 11) rfl)) (wl_in_0 _ (List.mem_of_getElem? (i := 12) rfl)) (wl_in_0 _ (List.mem_of_getElem? (i := 13) rfl)) (wl_in_0 _ (List.mem_of_getElem? (i := 8) rfl)) (wl_in_0 _ (List.mem_of_getElem? (i := 1) rfl))) rfl rfl rfl (by decide +kernel) ⟨Nat.le_of_ble_eq_true rfl, Nat.le_of_ble_eq_true rfl⟩) hK hDD hA0 hP hS 0 12 wm0 rfl rfl hl.1 (Nat.le_of_ble_eq_true rfl) dX12_feed_21 (fun A2 H locs hw3 hP hS => ?_)
    have ghw3 : q_X12_put x1 A A2 := hw3
    obtain ⟨_, hI, hf4, hw3⟩ := hw3
    have r_A2_0_1 : (0 : Int) ≤ (A2 0 1) ∧ (A2 0 1) ≤ 1600 := hI 0 1
    refine lv_aload_n hx hb dX12_feed_24 rfl (lv_at hl 0 rfl) ?_
    refine lv_iload_n hx hb dX12_feed_25 rfl (lv_at hl 2 rfl) ?_
    refine x_callv (As := [.int (iI x2)]) (rest := []) ⟨hx, hb, hml, hown, hts⟩ (mc_X12_put l dC dI cB cI cJ cZ cQ q _ x2 hI hx2 (by omega)) (cwV 1 hts (goodV (wl_in_0 _ (List.mem_of_getElem? (i := 11) rfl)) (wl_in_0 _ (List.mem_of_getElem? (i := 12) rfl)) (wl_in_0 _ (List.mem_of_getElem? (i := 13) rfl)) (wl_in_0 _ (List.mem_of_getElem? (i := 8) rfl)) (wl_in_0 _ (List.mem_of_getElem? (i := 1) rfl))) rfl rfl rfl (by decide +kernel) ⟨Nat.le_of_ble_eq_true rfl, Nat.le_of_ble_eq_true rfl⟩) hK hDD hA0 hP hS 0 12 wm0 rfl rfl hl.1 (Nat.le_of_ble_eq_true rfl) dX12_feed_26 (fun A5 H locs hw6 hP hS => ?_)
    have ghw6 : q_X12_put x2 A2 A5 := hw6
    obtain ⟨_, hI, hf7, hw6⟩ := hw6
    have r_A5_0_1 : (0 : Int) ≤ (A5 0 1) ∧ (A5 0 1) ≤ 1600 := hI 0 1
    refine lv_aload_n hx hb dX12_feed_29 rfl (lv_at hl 0 rfl) ?_
    refine lv_iload_n hx hb dX12_feed_30 rfl (lv_at hl 3 rfl) ?_
    refine x_callv (As := [.int (iI x3)]) (rest := []) ⟨hx, hb, hml, hown, hts⟩ (mc_X12_put l dC dI cB cI cJ cZ cQ q _ x3 hI hx3 (by omega)) (cwV 1 hts (goodV (wl_in_0 _ (List.mem_of_getElem? (i := 11) rfl)) (wl_in_0 _ (List.mem_of_getElem? (i := 12) rfl)) (wl_in_0 _ (List.mem_of_getElem? (i := 13) rfl)) (wl_in_0 _ (List.mem_of_getElem? (i := 8) rfl)) (wl_in_0 _ (List.mem_of_getElem? (i := 1) rfl))) rfl rfl rfl (by decide +kernel) ⟨Nat.le_of_ble_eq_true rfl, Nat.le_of_ble_eq_true rfl⟩) hK hDD hA0 hP hS 0 12 wm0 rfl rfl hl.1 (Nat.le_of_ble_eq_true rfl) dX12_feed_31 (fun A8 H locs hw9 hP hS => ?_)
    have ghw9 : q_X12_put x3 A5 A8 := hw9
    obtain ⟨_, hI, hf10, hw9⟩ := hw9
    have r_A8_0_1 : (0 : Int) ≤ (A8 0 1) ∧ (A8 0 1) ≤ 1600 := hI 0 1
    refine lv_aload_n hx hb dX12_feed_34 rfl (lv_at hl 0 rfl) ?_
    refine lv_iload hx hb dX12_feed_35 (lv_at hl 4 rfl) ?_
    refine x_callv (As := [.int (iI x4)]) (rest := []) ⟨hx, hb, hml, hown, hts⟩ (mc_X12_put l dC dI cB cI cJ cZ cQ q _ x4 hI hx4 (by omega)) (cwV 1 hts (goodV (wl_in_0 _ (List.mem_of_getElem? (i := 11) rfl)) (wl_in_0 _ (List.mem_of_getElem? (i := 12) rfl)) (wl_in_0 _ (List.mem_of_getElem? (i := 13) rfl)) (wl_in_0 _ (List.mem_of_getElem? (i := 8) rfl)) (wl_in_0 _ (List.mem_of_getElem? (i := 1) rfl))) rfl rfl rfl (by decide +kernel) ⟨Nat.le_of_ble_eq_true rfl, Nat.le_of_ble_eq_true rfl⟩) hK hDD hA0 hP hS 0 12 wm0 rfl rfl hl.1 (Nat.le_of_ble_eq_true rfl) dX12_feed_37 (fun A11 H locs hw12 hP hS => ?_)
    have ghw12 : q_X12_put x4 A8 A11 := hw12
    obtain ⟨_, hI, hf13, hw12⟩ := hw12
    have r_A11_0_1 : (0 : Int) ≤ (A11 0 1) ∧ (A11 0 1) ≤ 1600 := hI 0 1
    refine lv_aload_n hx hb dX12_feed_40 rfl (lv_at hl 0 rfl) ?_
    refine lv_iload hx hb dX12_feed_41 (lv_at hl 5 rfl) ?_
    refine x_callv (As := [.int (iI x5)]) (rest := []) ⟨hx, hb, hml, hown, hts⟩ (mc_X12_put l dC dI cB cI cJ cZ cQ q _ x5 hI hx5 (by omega)) (cwV 1 hts (goodV (wl_in_0 _ (List.mem_of_getElem? (i := 11) rfl)) (wl_in_0 _ (List.mem_of_getElem? (i := 12) rfl)) (wl_in_0 _ (List.mem_of_getElem? (i := 13) rfl)) (wl_in_0 _ (List.mem_of_getElem? (i := 8) rfl)) (wl_in_0 _ (List.mem_of_getElem? (i := 1) rfl))) rfl rfl rfl (by decide +kernel) ⟨Nat.le_of_ble_eq_true rfl, Nat.le_of_ble_eq_true rfl⟩) hK hDD hA0 hP hS 0 12 wm0 rfl rfl hl.1 (Nat.le_of_ble_eq_true rfl) dX12_feed_43 (fun A14 H locs hw15 hP hS => ?_)
    have ghw15 : q_X12_put x5 A11 A14 := hw15
    obtain ⟨_, hI, hf16, hw15⟩ := hw15
    have r_A14_0_1 : (0 : Int) ≤ (A14 0 1) ∧ (A14 0 1) ≤ 1600 := hI 0 1
    refine lv_aload_n hx hb dX12_feed_46 rfl (lv_at hl 0 rfl) ?_
    refine va_get (D := (dC, dI)) (ci := 12) (v := .int (iI (A14 0 1))) (C := RX12) (T := TX12) (N := 85) hx hb hts hiX12 hown hK hP 0 wm0 rfl 1 (by decide) (hts _ (List.mem_cons_of_mem _ (wl_in_0 _ (List.mem_of_getElem? (i := 3) rfl)))) (fun _ h9 => h9) rfl dX12_feed_47 ?_
    exact RET (A14 0 1) _ _ _ _ _ ⟨(u_r_X12_feed (Or.inl ⟨c1, ⟨A2, ghw3, ⟨A5, ghw6, ⟨A8, ghw9, ⟨A11, ghw12, ⟨A14, ghw15, ⟨rfl, rfl⟩⟩⟩⟩⟩⟩⟩)), hI, fr.trans (fr.trans (fr.trans (fr.trans (fr.trans (fr.rf) hf4 rfl rfl) hf7 rfl rfl) hf10 rfl rfl) hf13 rfl rfl) hf16 rfl rfl, by omega⟩ hP hS dX12_feed_50
  · have c1 : ¬ (A 0 1) + 20 ≤ 1600 := mt (i_le (by omega) ⟨by decide, by decide⟩).mpr c1
    refine lv_aload_n hx hb dX12_feed_13 rfl (lv_at hl 0 rfl) ?_
    refine lv_iconst (v := iI 0) hx hb dX12_feed_14 (by decide +kernel) ?_
    refine x_calli (As := [.int (iI 0)]) (rest := []) ⟨hx, hb, hml, hown, hts⟩ (mc_X12_refuses l dC dI cB cI cJ cZ cQ q _ 0 hI ⟨by decide, by decide⟩) (cwV 1 hts (goodV (wl_in_0 _ (List.mem_of_getElem? (i := 5) rfl)) (wl_in_0 _ (List.mem_of_getElem? (i := 6) rfl)) (wl_in_0 _ (List.mem_of_getElem? (i := 7) rfl)) (wl_in_0 _ (List.mem_of_getElem? (i := 8) rfl)) (wl_in_0 _ (List.mem_of_getElem? (i := 9) rfl))) rfl rfl rfl (by decide +kernel) ⟨Nat.le_of_ble_eq_true rfl, Nat.le_of_ble_eq_true rfl⟩) hK hDD hA0 hP hS 0 12 wm0 rfl rfl hl.1 (Nat.le_of_ble_eq_true rfl) dX12_feed_15 (fun z17 A18 H locs hw19 hP hS => ?_)
    have ghw19 : q_X12_refuses 0 A z17 A18 := hw19
    obtain ⟨_, hI, hf20, hw19⟩ := hw19
    have e_A18_1 : A18 0 1 = (A 0 1) := (hf20.2 1 rfl)
    exact RET z17 _ _ _ _ _ ⟨(u_r_X12_feed (Or.inr ⟨c1, ⟨z17, A18, ghw19, ⟨rfl, rfl⟩⟩⟩)), hI, fr.trans (fr.rf) hf20 rfl rfl, by omega⟩ hP hS dX12_feed_18

abbrev tr_d_X12_end_1 (A : St) (z : Int) (u : St) : Prop := (∃ z7 : Int, ∃ A8 : St, q_X12_refuses 0 A z7 A8 ∧ (z = 0 ∧ u = A8))
def d_X12_end_1 (A : St) (z : Int) (u : St) : Prop := tr_d_X12_end_1 A z u
theorem u_d_X12_end_1 {A : St} {z : Int} {u : St} (h : tr_d_X12_end_1 A z u) : d_X12_end_1 A z u := h
abbrev tr_r_X12_end (x1 : Int) (A : St) (z : Int) (u : St) : Prop := (((x1 < 0) ∧ (d_X12_end_1 A z u)) ∨ ((¬ x1 < 0) ∧ (((x1 ≤ (A 0 1)) ∧ (∃ A4 : St, A4 = (stA A 0 1 x1) ∧ (z = 1 ∧ u = A4))) ∨ ((¬ x1 ≤ (A 0 1)) ∧ (d_X12_end_1 A z u)))))
def r_X12_end (x1 : Int) (A : St) (z : Int) (u : St) : Prop := tr_r_X12_end x1 A z u
theorem u_r_X12_end {x1 : Int} {A : St} {z : Int} {u : St} (h : tr_r_X12_end x1 A z u) : r_X12_end x1 A z u := h
def ws_mc_X12_end : List Cond := .code yX12_end cX12_end 2 (some .boolean) :: WX
set_option maxHeartbeats 4000000 in
set_option maxRecDepth 100000 in
theorem mc_X12_end (l : Launch) (dC : Nat → ClassId) (dI : Nat → Nat → Nat) (cB cI cJ cZ cQ : ClassId) (q : Nat → Nat) (A : St) (x1 : Int) (hI : IM A) (hx1 : (-2147483648 : Int) ≤ x1 ∧ x1 ≤ 2147483647) : XMi l yX12_end ws_mc_X12_end ({ frames := 1, cells := 0, slots := 0, locals := 21 } : Room) (dC, dI) (tyA cB cI cJ cZ cQ) (WM cI cJ cZ q) A [.ref (q 0), .int (iI x1)] (fun z u => r_X12_end x1 A z u ∧ IM u ∧ fr [41] [1] A u ∧ ((0 ≤ z ∧ z ≤ 1) ∧ ((z = 0 ∧ u 0 1 = A 0 1 ∧ (x1 < 0 ∨ A 0 1 < x1)) ∨ (z = 1 ∧ u 0 1 = x1 ∧ 0 ≤ x1 ∧ x1 ≤ A 0 1)))) := by
  refine x_metz (cc := cX12_end) (maxL := 2) WM_adr (by decide +kernel) rfl (Nat.le_of_ble_eq_true rfl) (fun z u h => h.2.2.2.1) (fun p e s m below meth c Q AS ls hx hb hml hown hts hK hDD hA0 hP hS hl RET => ?_)
  have hown : s.vm.findClass RX12 = some m.cls := hown
  have hl : lv_has ls 2 [(0, .ref (q 0)), (1, .int (iI x1))] := hl
  have hiX12 : ∀ w ∈ u_ws RX12 TX12 85, w ∈ ws_mc_X12_end := fun w h => List.mem_cons_of_mem _ (wx_lay w h)
  obtain ⟨H, hHe⟩ : ∃ H : Heap, H = s.heap := ⟨_, rfl⟩
  rw [← hHe] at hP
  have hS : va_S AS s.heap H [] := by rw [hHe]; exact hS
  suffices hgo : ∀ locs : List Loc, va_S AS s.heap H locs → W p l e (headSpec ws_mc_X12_end ({ frames := 1, cells := 0, slots := 0, locals := 21 } : Room)).room s m [.ref (q 0), .int (iI x1)].toArray below meth c H locs 0 0 Q (F0 m 0 ls []) by
    have := hgo [] hS
    rw [hHe] at this
    exact this
  clear hS hHe
  intro locs hS
  refine lv_iload_n hx hb dX12_end_0 rfl (lv_at hl 1 rfl) ?_
  have J12_2 : ∀ (H : Heap) (locs : List Loc) (ls : Array Slot), ((x1 < 0) ∨ (¬ x1 < 0 ∧ ¬ x1 ≤ (A 0 1))) → (∀ (z : Int) (u : St), (d_X12_end_1 A z u) → r_X12_end x1 A z u) → va_P (dC, dI) vwCl (WM cI cJ cZ q A) H → va_S AS s.heap H locs → lv_has ls 2 [(0, .ref (q 0)), (1, .int (iI x1))] → W p l e (headSpec ws_mc_X12_end ({ frames := 1, cells := 0, slots := 0, locals := 21 } : Room)).room s m [.ref (q 0), .int (iI x1)].toArray below meth c H locs 0 0 Q (F0 m 12 ls []) := by
    intro H locs ls f6 hk1 hP hS hl
    refine lv_aload_n hx hb dX12_end_12 rfl (lv_at hl 0 rfl) ?_
    refine lv_iconst (v := iI 0) hx hb dX12_end_13 (by decide +kernel) ?_
    refine x_calli (As := [.int (iI 0)]) (rest := []) ⟨hx, hb, hml, hown, hts⟩ (mc_X12_refuses l dC dI cB cI cJ cZ cQ q _ 0 hI ⟨by decide, by decide⟩) (cwV 1 hts (goodV (wl_in_0 _ (List.mem_of_getElem? (i := 5) rfl)) (wl_in_0 _ (List.mem_of_getElem? (i := 6) rfl)) (wl_in_0 _ (List.mem_of_getElem? (i := 7) rfl)) (wl_in_0 _ (List.mem_of_getElem? (i := 8) rfl)) (wl_in_0 _ (List.mem_of_getElem? (i := 9) rfl))) rfl rfl rfl (by decide +kernel) ⟨Nat.le_of_ble_eq_true rfl, Nat.le_of_ble_eq_true rfl⟩) hK hDD hA0 hP hS 0 12 wm0 rfl rfl hl.1 (Nat.le_of_ble_eq_true rfl) dX12_end_14 (fun z7 A8 H locs hw9 hP hS => ?_)
    have ghw9 : q_X12_refuses 0 A z7 A8 := hw9
    obtain ⟨_, hI, hf10, hw9⟩ := hw9
    refine lv_if_lt (tgt := 24) hx hb dX12_end_17 (by decide) (fun _ => ?_) (fun c11 => False.elim (by have c11 : ¬ z7 < 0 := mt (i_lt0 (by omega)).mpr c11; omega))
    refine lv_iconst (v := iI 0) hx hb dX12_end_24 (by decide +kernel) ?_
    have e_A8_1 : A8 0 1 = (A 0 1) := (hf10.2 1 rfl)
    have r_A_0_1 : (0 : Int) ≤ (A 0 1) ∧ (A 0 1) ≤ 1600 := by rw [← e_A8_1]; exact hI 0 1
    exact RET 0 _ _ _ _ _ ⟨hk1 _ _ (u_d_X12_end_1 ⟨z7, A8, ghw9, ⟨rfl, rfl⟩⟩), hI, fr.trans (fr.rf) hf10 rfl rfl, by omega⟩ hP hS dX12_end_25
  refine lv_if_lt (tgt := 12) hx hb dX12_end_1 (by decide) (fun c1 => ?_) (fun c1 => ?_)
  · have c1 : x1 < 0 := (i_lt0 hx1).mp c1
    exact J12_2 _ _ _ (by omega) (fun zq uq hq => (u_r_X12_end (Or.inl ⟨c1, hq⟩))) hP hS (lv_sub hl [0, 1] rfl)
  · have c1 : ¬ x1 < 0 := mt (i_lt0 hx1).mpr c1
    refine lv_iload_n hx hb dX12_end_4 rfl (lv_at hl 1 rfl) ?_
    refine lv_aload_n hx hb dX12_end_5 rfl (lv_at hl 0 rfl) ?_
    refine va_get (D := (dC, dI)) (ci := 12) (v := .int (iI (A 0 1))) (C := RX12) (T := TX12) (N := 85) hx hb hts hiX12 hown hK hP 0 wm0 rfl 1 (by decide) (hts _ (List.mem_cons_of_mem _ (wl_in_0 _ (List.mem_of_getElem? (i := 3) rfl)))) (fun _ h9 => h9) rfl dX12_end_6 ?_
    have r_A_0_1 : (0 : Int) ≤ (A 0 1) ∧ (A 0 1) ≤ 1600 := hI 0 1
    refine lv_icmp_le (tgt := 26) hx hb dX12_end_9 (by decide) (fun c3 => ?_) (fun c3 => ?_)
    · have c3 : x1 ≤ (A 0 1) := (i_le hx1 (rb r_A_0_1 (by decide) (by decide))).mp c3
      refine lv_aload_n hx hb dX12_end_26 rfl (lv_at hl 0 rfl) ?_
      refine lv_iload_n hx hb dX12_end_27 rfl (lv_at hl 1 rfl) ?_
      refine x_put (D := (dC, dI)) (ci := 12) (v := .int (iI x1)) (ty := .int) (C := RX12) (T := TX12) (N := 85) hx hb hts hiX12 tyX12 tyX12_ok nmX12 hown hK hP hDD hS 0 wm0 rfl 1 (by decide) (hts _ (List.mem_cons_of_mem _ (wl_in_0 _ (List.mem_of_getElem? (i := 3) rfl)))) (fun _ h9 => h9) rfl (by decide +kernel) rfl rfl (Nat.le_of_ble_eq_true rfl) dX12_end_28 (wf1 (v := x1)) (fun H locs hP hS => ?_)
      have hI := hI.st (j := 0) (i := 1) (v := x1) (show (0 : Int) ≤ x1 ∧ x1 ≤ 1600 from (by omega))
      refine lv_iconst (v := iI 1) hx hb dX12_end_31 (by decide +kernel) ?_
      obtain ⟨A4, hA4⟩ : ∃ A4 : St, A4 = (stA A 0 1 x1) := ⟨_, rfl⟩
      rw [← hA4] at hP hI
      have e_A4_1 : A4 0 1 = x1 := by rw [hA4]; rfl
      exact RET 1 _ _ _ _ _ ⟨(u_r_X12_end (Or.inr ⟨c1, (Or.inl ⟨c3, ⟨A4, hA4, ⟨rfl, rfl⟩⟩⟩)⟩)), hI, fr_def hA4 (fr.sf (fr.rf) rfl), by omega⟩ hP hS dX12_end_32
    · have c3 : ¬ x1 ≤ (A 0 1) := mt (i_le hx1 (rb r_A_0_1 (by decide) (by decide))).mpr c3
      exact J12_2 _ _ _ (by omega) (fun zq uq hq => (u_r_X12_end (Or.inr ⟨c1, (Or.inr ⟨c3, hq⟩)⟩))) hP hS (lv_sub hl [0, 1] rfl)

abbrev tr_r_X12_blame (x1 : Int) (x2 : Int) (A : St) (u : St) : Prop := ((((A 0 8) ≤ 0) ∧ (∃ A2 : St, A2 = (stA (stA A 0 8 x1) 0 9 x2) ∧ (u = A2))) ∨ ((¬ (A 0 8) ≤ 0) ∧ (u = A)))
def r_X12_blame (x1 : Int) (x2 : Int) (A : St) (u : St) : Prop := tr_r_X12_blame x1 x2 A u
theorem u_r_X12_blame {x1 : Int} {x2 : Int} {A : St} {u : St} (h : tr_r_X12_blame x1 x2 A u) : r_X12_blame x1 x2 A u := h
def q_X12_blame (x1 : Int) (x2 : Int) (A : St) (u : St) : Prop := r_X12_blame x1 x2 A u ∧ IM u ∧ fr [] [8, 9] A u ∧ (1 ≤ u 0 8)
def ws_mc_X12_blame : List Cond := .code yX12_blame cX12_blame 3 none :: WX
set_option maxHeartbeats 4000000 in
set_option maxRecDepth 100000 in
theorem mc_X12_blame (l : Launch) (dC : Nat → ClassId) (dI : Nat → Nat → Nat) (cB cI cJ cZ cQ : ClassId) (q : Nat → Nat) (A : St) (x1 x2 : Int) (hI : IM A) (hx1 : (1 : Int) ≤ x1 ∧ x1 ≤ 5) (hx2 : (0 : Int) ≤ x2 ∧ x2 ≤ 1600) : XMv l yX12_blame ws_mc_X12_blame ({ frames := 0, cells := 0, slots := 0, locals := 0 } : Room) (dC, dI) (tyA cB cI cJ cZ cQ) (WM cI cJ cZ q) A [.ref (q 0), .int (iI x1), .int (iI x2)] (fun u => r_X12_blame x1 x2 A u ∧ IM u ∧ fr [] [8, 9] A u ∧ (1 ≤ u 0 8)) := by
  refine x_metv (cc := cX12_blame) (maxL := 3) WM_adr (by decide +kernel) rfl (Nat.le_of_ble_eq_true rfl) (fun p e s m below meth c Q AS ls hx hb hml hown hts hK hDD hA0 hP hS hl RET => ?_)
  have hown : s.vm.findClass RX12 = some m.cls := hown
  have hl : lv_has ls 3 [(0, .ref (q 0)), (1, .int (iI x1)), (2, .int (iI x2))] := hl
  have hiX12 : ∀ w ∈ u_ws RX12 TX12 85, w ∈ ws_mc_X12_blame := fun w h => List.mem_cons_of_mem _ (wx_lay w h)
  obtain ⟨H, hHe⟩ : ∃ H : Heap, H = s.heap := ⟨_, rfl⟩
  rw [← hHe] at hP
  have hS : va_S AS s.heap H [] := by rw [hHe]; exact hS
  suffices hgo : ∀ locs : List Loc, va_S AS s.heap H locs → W p l e (headSpec ws_mc_X12_blame ({ frames := 0, cells := 0, slots := 0, locals := 0 } : Room)).room s m [.ref (q 0), .int (iI x1), .int (iI x2)].toArray below meth c H locs 0 0 Q (F0 m 0 ls []) by
    have := hgo [] hS
    rw [hHe] at this
    exact this
  clear hS hHe
  intro locs hS
  refine lv_aload_n hx hb dX12_blame_0 rfl (lv_at hl 0 rfl) ?_
  refine va_get (D := (dC, dI)) (ci := 12) (v := .int (iI (A 0 8))) (C := RX12) (T := TX12) (N := 85) hx hb hts hiX12 hown hK hP 0 wm0 rfl 8 (by decide) (hts _ (List.mem_cons_of_mem _ (wl_in_0 _ (List.mem_of_getElem? (i := 16) rfl)))) (fun _ h9 => h9) rfl dX12_blame_1 ?_
  have r_A_0_8 : (0 : Int) ≤ (A 0 8) ∧ (A 0 8) ≤ 5 := hI 0 8
  refine lv_if_le (tgt := 8) hx hb dX12_blame_4 (by decide) (fun c1 => ?_) (fun c1 => ?_)
  · have c1 : (A 0 8) ≤ 0 := (i_le0 (rb r_A_0_8 (by decide) (by decide))).mp c1
    refine lv_aload_n hx hb dX12_blame_8 rfl (lv_at hl 0 rfl) ?_
    refine lv_iload_n hx hb dX12_blame_9 rfl (lv_at hl 1 rfl) ?_
    refine x_put (D := (dC, dI)) (ci := 12) (v := .int (iI x1)) (ty := .int) (C := RX12) (T := TX12) (N := 85) hx hb hts hiX12 tyX12 tyX12_ok nmX12 hown hK hP hDD hS 0 wm0 rfl 8 (by decide) (hts _ (List.mem_cons_of_mem _ (wl_in_0 _ (List.mem_of_getElem? (i := 16) rfl)))) (fun _ h9 => h9) rfl (by decide +kernel) rfl rfl (Nat.le_of_ble_eq_true rfl) dX12_blame_10 (wf8 (v := x1)) (fun H locs hP hS => ?_)
    have hI := hI.st (j := 0) (i := 8) (v := x1) (show (0 : Int) ≤ x1 ∧ x1 ≤ 5 from (by omega))
    refine lv_aload_n hx hb dX12_blame_13 rfl (lv_at hl 0 rfl) ?_
    refine lv_iload_n hx hb dX12_blame_14 rfl (lv_at hl 2 rfl) ?_
    refine x_put (D := (dC, dI)) (ci := 12) (v := .int (iI x2)) (ty := .int) (C := RX12) (T := TX12) (N := 85) hx hb hts hiX12 tyX12 tyX12_ok nmX12 hown hK hP hDD hS 0 wm0 rfl 9 (by decide) (hts _ (List.mem_cons_of_mem _ (wl_in_0 _ (List.mem_of_getElem? (i := 17) rfl)))) (fun _ h9 => h9) rfl (by decide +kernel) rfl rfl (Nat.le_of_ble_eq_true rfl) dX12_blame_15 (wf9 (v := x2)) (fun H locs hP hS => ?_)
    have hI := hI.st (j := 0) (i := 9) (v := x2) (show (-1 : Int) ≤ x2 ∧ x2 ≤ 1600 from (by omega))
    obtain ⟨A2, hA2⟩ : ∃ A2 : St, A2 = (stA (stA A 0 8 x1) 0 9 x2) := ⟨_, rfl⟩
    rw [← hA2] at hP hI
    have e_A2_8 : A2 0 8 = x1 := by rw [hA2]; rfl
    exact RET _ _ _ _ _ ⟨(u_r_X12_blame (Or.inl ⟨c1, ⟨A2, hA2, rfl⟩⟩)), hI, fr_def hA2 (fr.sf (fr.sf (fr.rf) rfl) rfl), by omega⟩ hP hS dX12_blame_18
  · have c1 : ¬ (A 0 8) ≤ 0 := mt (i_le0 (rb r_A_0_8 (by decide) (by decide))).mpr c1
    exact RET _ _ _ _ _ ⟨(u_r_X12_blame (Or.inr ⟨c1, rfl⟩)), hI, fr.rf, by omega⟩ hP hS dX12_blame_7

abbrev tr_r_X12_isLetter (x1 : Int) (A : St) (z : Int) : Prop := (((x1 < 97) ∧ (z = 0)) ∨ ((¬ x1 < 97) ∧ (((122 < x1) ∧ (z = 0)) ∨ ((¬ 122 < x1) ∧ (z = 1)))))
def r_X12_isLetter (x1 : Int) (A : St) (z : Int) : Prop := tr_r_X12_isLetter x1 A z
theorem u_r_X12_isLetter {x1 : Int} {A : St} {z : Int} (h : tr_r_X12_isLetter x1 A z) : r_X12_isLetter x1 A z := h
def q_X12_isLetter (x1 : Int) (A : St) (z : Int) : Prop := r_X12_isLetter x1 A z ∧ ((0 ≤ z ∧ z ≤ 1) ∧ (z = 1 ↔ 97 ≤ x1 ∧ x1 ≤ 122))
def ws_mc_X12_isLetter : List Cond := .code yX12_isLetter cX12_isLetter 1 (some .boolean) :: WX
set_option maxHeartbeats 4000000 in
set_option maxRecDepth 100000 in
theorem mc_X12_isLetter (l : Launch) (dC : Nat → ClassId) (dI : Nat → Nat → Nat) (cB cI cJ cZ cQ : ClassId) (q : Nat → Nat) (A : St) (x1 : Int) (hI : IM A) (hx1 : (-2147483648 : Int) ≤ x1 ∧ x1 ≤ 2147483647) : XMi l yX12_isLetter ws_mc_X12_isLetter ({ frames := 0, cells := 0, slots := 0, locals := 0 } : Room) (dC, dI) (tyA cB cI cJ cZ cQ) (WM cI cJ cZ q) A [.int (iI x1)] (fun z u => A = u ∧ r_X12_isLetter x1 A z ∧ ((0 ≤ z ∧ z ≤ 1) ∧ (z = 1 ↔ 97 ≤ x1 ∧ x1 ≤ 122))) := by
  refine x_metz (cc := cX12_isLetter) (maxL := 1) WM_adr (by decide +kernel) rfl (Nat.le_of_ble_eq_true rfl) (fun z u h => h.2.2.1) (fun p e s m below meth c Q AS ls hx hb hml hown hts hK hDD hA0 hP hS hl RET => ?_)
  have hown : s.vm.findClass RX12 = some m.cls := hown
  have hl : lv_has ls 1 [(0, .int (iI x1))] := hl
  obtain ⟨H, hHe⟩ : ∃ H : Heap, H = s.heap := ⟨_, rfl⟩
  rw [← hHe] at hP
  have hS : va_S AS s.heap H [] := by rw [hHe]; exact hS
  suffices hgo : ∀ locs : List Loc, va_S AS s.heap H locs → W p l e (headSpec ws_mc_X12_isLetter ({ frames := 0, cells := 0, slots := 0, locals := 0 } : Room)).room s m [.int (iI x1)].toArray below meth c H locs 0 0 Q (F0 m 0 ls []) by
    have := hgo [] hS
    rw [hHe] at this
    exact this
  clear hS hHe
  intro locs hS
  refine lv_iload_n hx hb dX12_isLetter_0 rfl (lv_at hl 0 rfl) ?_
  refine lv_bipush (v := iI 97) hx hb dX12_isLetter_1 (by decide +kernel) ?_
  refine lv_icmp_lt (tgt := 16) hx hb dX12_isLetter_3 (by decide) (fun c1 => ?_) (fun c1 => ?_)
  · have c1 : x1 < 97 := (i_lt hx1 ⟨by decide, by decide⟩).mp c1
    refine lv_iconst (v := iI 0) hx hb dX12_isLetter_16 (by decide +kernel) ?_
    exact RET 0 _ _ _ _ _ ⟨rfl, (u_r_X12_isLetter (Or.inl ⟨c1, rfl⟩)), by omega⟩ hP hS dX12_isLetter_17
  · have c1 : ¬ x1 < 97 := mt (i_lt hx1 ⟨by decide, by decide⟩).mpr c1
    refine lv_iload_n hx hb dX12_isLetter_6 rfl (lv_at hl 0 rfl) ?_
    refine lv_bipush (v := iI 122) hx hb dX12_isLetter_7 (by decide +kernel) ?_
    refine lv_icmp_gt (tgt := 16) hx hb dX12_isLetter_9 (by decide) (fun c2 => ?_) (fun c2 => ?_)
    · have c2 : 122 < x1 := (i_lt ⟨by decide, by decide⟩ hx1).mp c2
      refine lv_iconst (v := iI 0) hx hb dX12_isLetter_16 (by decide +kernel) ?_
      exact RET 0 _ _ _ _ _ ⟨rfl, (u_r_X12_isLetter (Or.inr ⟨c1, (Or.inl ⟨c2, rfl⟩)⟩)), by omega⟩ hP hS dX12_isLetter_17
    · have c2 : ¬ 122 < x1 := mt (i_lt ⟨by decide, by decide⟩ hx1).mpr c2
      refine lv_iconst (v := iI 1) hx hb dX12_isLetter_12 (by decide +kernel) ?_
      refine lv_goto (tgt := 17) hx hb dX12_isLetter_13 (by decide) ?_
      exact RET 1 _ _ _ _ _ ⟨rfl, (u_r_X12_isLetter (Or.inr ⟨c1, (Or.inr ⟨c2, rfl⟩)⟩)), by omega⟩ hP hS dX12_isLetter_17

abbrev tr_r_X12_isDigit (x1 : Int) (A : St) (z : Int) : Prop := (((x1 < 48) ∧ (z = 0)) ∨ ((¬ x1 < 48) ∧ (((57 < x1) ∧ (z = 0)) ∨ ((¬ 57 < x1) ∧ (z = 1)))))
def r_X12_isDigit (x1 : Int) (A : St) (z : Int) : Prop := tr_r_X12_isDigit x1 A z
theorem u_r_X12_isDigit {x1 : Int} {A : St} {z : Int} (h : tr_r_X12_isDigit x1 A z) : r_X12_isDigit x1 A z := h
def q_X12_isDigit (x1 : Int) (A : St) (z : Int) : Prop := r_X12_isDigit x1 A z ∧ ((0 ≤ z ∧ z ≤ 1) ∧ (z = 1 ↔ 48 ≤ x1 ∧ x1 ≤ 57))
def ws_mc_X12_isDigit : List Cond := .code yX12_isDigit cX12_isDigit 1 (some .boolean) :: WX
set_option maxHeartbeats 4000000 in
set_option maxRecDepth 100000 in
theorem mc_X12_isDigit (l : Launch) (dC : Nat → ClassId) (dI : Nat → Nat → Nat) (cB cI cJ cZ cQ : ClassId) (q : Nat → Nat) (A : St) (x1 : Int) (hI : IM A) (hx1 : (-2147483648 : Int) ≤ x1 ∧ x1 ≤ 2147483647) : XMi l yX12_isDigit ws_mc_X12_isDigit ({ frames := 0, cells := 0, slots := 0, locals := 0 } : Room) (dC, dI) (tyA cB cI cJ cZ cQ) (WM cI cJ cZ q) A [.int (iI x1)] (fun z u => A = u ∧ r_X12_isDigit x1 A z ∧ ((0 ≤ z ∧ z ≤ 1) ∧ (z = 1 ↔ 48 ≤ x1 ∧ x1 ≤ 57))) := by
  refine x_metz (cc := cX12_isDigit) (maxL := 1) WM_adr (by decide +kernel) rfl (Nat.le_of_ble_eq_true rfl) (fun z u h => h.2.2.1) (fun p e s m below meth c Q AS ls hx hb hml hown hts hK hDD hA0 hP hS hl RET => ?_)
  have hown : s.vm.findClass RX12 = some m.cls := hown
  have hl : lv_has ls 1 [(0, .int (iI x1))] := hl
  obtain ⟨H, hHe⟩ : ∃ H : Heap, H = s.heap := ⟨_, rfl⟩
  rw [← hHe] at hP
  have hS : va_S AS s.heap H [] := by rw [hHe]; exact hS
  suffices hgo : ∀ locs : List Loc, va_S AS s.heap H locs → W p l e (headSpec ws_mc_X12_isDigit ({ frames := 0, cells := 0, slots := 0, locals := 0 } : Room)).room s m [.int (iI x1)].toArray below meth c H locs 0 0 Q (F0 m 0 ls []) by
    have := hgo [] hS
    rw [hHe] at this
    exact this
  clear hS hHe
  intro locs hS
  refine lv_iload_n hx hb dX12_isDigit_0 rfl (lv_at hl 0 rfl) ?_
  refine lv_bipush (v := iI 48) hx hb dX12_isDigit_1 (by decide +kernel) ?_
  refine lv_icmp_lt (tgt := 16) hx hb dX12_isDigit_3 (by decide) (fun c1 => ?_) (fun c1 => ?_)
  · have c1 : x1 < 48 := (i_lt hx1 ⟨by decide, by decide⟩).mp c1
    refine lv_iconst (v := iI 0) hx hb dX12_isDigit_16 (by decide +kernel) ?_
    exact RET 0 _ _ _ _ _ ⟨rfl, (u_r_X12_isDigit (Or.inl ⟨c1, rfl⟩)), by omega⟩ hP hS dX12_isDigit_17
  · have c1 : ¬ x1 < 48 := mt (i_lt hx1 ⟨by decide, by decide⟩).mpr c1
    refine lv_iload_n hx hb dX12_isDigit_6 rfl (lv_at hl 0 rfl) ?_
    refine lv_bipush (v := iI 57) hx hb dX12_isDigit_7 (by decide +kernel) ?_
    refine lv_icmp_gt (tgt := 16) hx hb dX12_isDigit_9 (by decide) (fun c2 => ?_) (fun c2 => ?_)
    · have c2 : 57 < x1 := (i_lt ⟨by decide, by decide⟩ hx1).mp c2
      refine lv_iconst (v := iI 0) hx hb dX12_isDigit_16 (by decide +kernel) ?_
      exact RET 0 _ _ _ _ _ ⟨rfl, (u_r_X12_isDigit (Or.inr ⟨c1, (Or.inl ⟨c2, rfl⟩)⟩)), by omega⟩ hP hS dX12_isDigit_17
    · have c2 : ¬ 57 < x1 := mt (i_lt ⟨by decide, by decide⟩ hx1).mpr c2
      refine lv_iconst (v := iI 1) hx hb dX12_isDigit_12 (by decide +kernel) ?_
      refine lv_goto (tgt := 17) hx hb dX12_isDigit_13 (by decide) ?_
      exact RET 1 _ _ _ _ _ ⟨rfl, (u_r_X12_isDigit (Or.inr ⟨c1, (Or.inr ⟨c2, rfl⟩)⟩)), by omega⟩ hP hS dX12_isDigit_17

abbrev tr_r_X12_key4 (x1 : Int) (A : St) (z : Int) : Prop := (z = 4 * (A 0 12) + x1)
def r_X12_key4 (x1 : Int) (A : St) (z : Int) : Prop := tr_r_X12_key4 x1 A z
theorem u_r_X12_key4 {x1 : Int} {A : St} {z : Int} (h : tr_r_X12_key4 x1 A z) : r_X12_key4 x1 A z := h
def q_X12_key4 (x1 : Int) (A : St) (z : Int) : Prop := r_X12_key4 x1 A z ∧ (z = 4 * A 0 12 + x1)
def ws_mc_X12_key4 : List Cond := .code yX12_key4 cX12_key4 2 (some .int) :: WX
set_option maxHeartbeats 4000000 in
set_option maxRecDepth 100000 in
theorem mc_X12_key4 (l : Launch) (dC : Nat → ClassId) (dI : Nat → Nat → Nat) (cB cI cJ cZ cQ : ClassId) (q : Nat → Nat) (A : St) (x1 : Int) (hI : IM A) (hx1 : (0 : Int) ≤ x1 ∧ x1 ≤ 3) : XMi l yX12_key4 ws_mc_X12_key4 ({ frames := 0, cells := 0, slots := 0, locals := 0 } : Room) (dC, dI) (tyA cB cI cJ cZ cQ) (WM cI cJ cZ q) A [.ref (q 0), .int (iI x1)] (fun z u => A = u ∧ r_X12_key4 x1 A z ∧ (z = 4 * A 0 12 + x1)) := by
  refine x_meti (cc := cX12_key4) (maxL := 2) WM_adr (by decide +kernel) rfl (Nat.le_of_ble_eq_true rfl) (fun p e s m below meth c Q AS ls hx hb hml hown hts hK hDD hA0 hP hS hl RET => ?_)
  have hown : s.vm.findClass RX12 = some m.cls := hown
  have hl : lv_has ls 2 [(0, .ref (q 0)), (1, .int (iI x1))] := hl
  have hiX12 : ∀ w ∈ u_ws RX12 TX12 85, w ∈ ws_mc_X12_key4 := fun w h => List.mem_cons_of_mem _ (wx_lay w h)
  obtain ⟨H, hHe⟩ : ∃ H : Heap, H = s.heap := ⟨_, rfl⟩
  rw [← hHe] at hP
  have hS : va_S AS s.heap H [] := by rw [hHe]; exact hS
  suffices hgo : ∀ locs : List Loc, va_S AS s.heap H locs → W p l e (headSpec ws_mc_X12_key4 ({ frames := 0, cells := 0, slots := 0, locals := 0 } : Room)).room s m [.ref (q 0), .int (iI x1)].toArray below meth c H locs 0 0 Q (F0 m 0 ls []) by
    have := hgo [] hS
    rw [hHe] at this
    exact this
  clear hS hHe
  intro locs hS
  refine lv_iconst (v := iI 4) hx hb dX12_key4_0 (by decide +kernel) ?_
  refine lv_aload_n hx hb dX12_key4_1 rfl (lv_at hl 0 rfl) ?_
  refine va_get (D := (dC, dI)) (ci := 12) (v := .int (iI (A 0 12))) (C := RX12) (T := TX12) (N := 85) hx hb hts hiX12 hown hK hP 0 wm0 rfl 12 (by decide) (hts _ (List.mem_cons_of_mem _ (wl_in_4 _ (List.mem_of_getElem? (i := 14) rfl)))) (fun _ h9 => h9) rfl dX12_key4_2 ?_
  have r_A_0_12 : (0 : Int) ≤ (A 0 12) ∧ (A 0 12) ≤ 1 := hI 0 12
  refine x_mulv (v := 4 * (A 0 12)) hx hb dX12_key4_5 (by omega) ?_
  refine lv_iload_n hx hb dX12_key4_6 rfl (lv_at hl 1 rfl) ?_
  refine x_addv (v := 4 * (A 0 12) + x1) hx hb dX12_key4_7 (by omega) ?_
  exact RET (4 * (A 0 12) + x1) _ _ _ _ _ ⟨rfl, (u_r_X12_key4 rfl), by omega⟩ hP hS dX12_key4_8

abbrev tr_r_X12_door10 (x1 : Int) (A : St) (z : Int) : Prop := (z = 10 * (A 0 12) + x1)
def r_X12_door10 (x1 : Int) (A : St) (z : Int) : Prop := tr_r_X12_door10 x1 A z
theorem u_r_X12_door10 {x1 : Int} {A : St} {z : Int} (h : tr_r_X12_door10 x1 A z) : r_X12_door10 x1 A z := h
def q_X12_door10 (x1 : Int) (A : St) (z : Int) : Prop := r_X12_door10 x1 A z ∧ (z = 10 * A 0 12 + x1)
def ws_mc_X12_door10 : List Cond := .code yX12_door10 cX12_door10 2 (some .int) :: WX
set_option maxHeartbeats 4000000 in
set_option maxRecDepth 100000 in
theorem mc_X12_door10 (l : Launch) (dC : Nat → ClassId) (dI : Nat → Nat → Nat) (cB cI cJ cZ cQ : ClassId) (q : Nat → Nat) (A : St) (x1 : Int) (hI : IM A) (hx1 : (0 : Int) ≤ x1 ∧ x1 ≤ 9) : XMi l yX12_door10 ws_mc_X12_door10 ({ frames := 0, cells := 0, slots := 0, locals := 0 } : Room) (dC, dI) (tyA cB cI cJ cZ cQ) (WM cI cJ cZ q) A [.ref (q 0), .int (iI x1)] (fun z u => A = u ∧ r_X12_door10 x1 A z ∧ (z = 10 * A 0 12 + x1)) := by
  refine x_meti (cc := cX12_door10) (maxL := 2) WM_adr (by decide +kernel) rfl (Nat.le_of_ble_eq_true rfl) (fun p e s m below meth c Q AS ls hx hb hml hown hts hK hDD hA0 hP hS hl RET => ?_)
  have hown : s.vm.findClass RX12 = some m.cls := hown
  have hl : lv_has ls 2 [(0, .ref (q 0)), (1, .int (iI x1))] := hl
  have hiX12 : ∀ w ∈ u_ws RX12 TX12 85, w ∈ ws_mc_X12_door10 := fun w h => List.mem_cons_of_mem _ (wx_lay w h)
  obtain ⟨H, hHe⟩ : ∃ H : Heap, H = s.heap := ⟨_, rfl⟩
  rw [← hHe] at hP
  have hS : va_S AS s.heap H [] := by rw [hHe]; exact hS
  suffices hgo : ∀ locs : List Loc, va_S AS s.heap H locs → W p l e (headSpec ws_mc_X12_door10 ({ frames := 0, cells := 0, slots := 0, locals := 0 } : Room)).room s m [.ref (q 0), .int (iI x1)].toArray below meth c H locs 0 0 Q (F0 m 0 ls []) by
    have := hgo [] hS
    rw [hHe] at this
    exact this
  clear hS hHe
  intro locs hS
  refine lv_bipush (v := iI 10) hx hb dX12_door10_0 (by decide +kernel) ?_
  refine lv_aload_n hx hb dX12_door10_2 rfl (lv_at hl 0 rfl) ?_
  refine va_get (D := (dC, dI)) (ci := 12) (v := .int (iI (A 0 12))) (C := RX12) (T := TX12) (N := 85) hx hb hts hiX12 hown hK hP 0 wm0 rfl 12 (by decide) (hts _ (List.mem_cons_of_mem _ (wl_in_4 _ (List.mem_of_getElem? (i := 14) rfl)))) (fun _ h9 => h9) rfl dX12_door10_3 ?_
  have r_A_0_12 : (0 : Int) ≤ (A 0 12) ∧ (A 0 12) ≤ 1 := hI 0 12
  refine x_mulv (v := 10 * (A 0 12)) hx hb dX12_door10_6 (by omega) ?_
  refine lv_iload_n hx hb dX12_door10_7 rfl (lv_at hl 1 rfl) ?_
  refine x_addv (v := 10 * (A 0 12) + x1) hx hb dX12_door10_8 (by omega) ?_
  exact RET (10 * (A 0 12) + x1) _ _ _ _ _ ⟨rfl, (u_r_X12_door10 rfl), by omega⟩ hP hS dX12_door10_9

abbrev tr_r_X12_placeOf (x1 : Int) (A : St) (z : Int) : Prop := (∃ z1 : Int, z1 = A 18 (3 * (A 0 12) + x1).toNat ∧ (z = z1))
def r_X12_placeOf (x1 : Int) (A : St) (z : Int) : Prop := tr_r_X12_placeOf x1 A z
theorem u_r_X12_placeOf {x1 : Int} {A : St} {z : Int} (h : tr_r_X12_placeOf x1 A z) : r_X12_placeOf x1 A z := h
def q_X12_placeOf (x1 : Int) (A : St) (z : Int) : Prop := r_X12_placeOf x1 A z ∧ (0 ≤ z ∧ z ≤ 7)
def ws_mc_X12_placeOf : List Cond := .code yX12_placeOf cX12_placeOf 2 (some .int) :: WX
set_option maxHeartbeats 4000000 in
set_option maxRecDepth 100000 in
theorem mc_X12_placeOf (l : Launch) (dC : Nat → ClassId) (dI : Nat → Nat → Nat) (cB cI cJ cZ cQ : ClassId) (q : Nat → Nat) (A : St) (x1 : Int) (hI : IM A) (hx1 : (0 : Int) ≤ x1 ∧ x1 ≤ 2) : XMi l yX12_placeOf ws_mc_X12_placeOf ({ frames := 0, cells := 0, slots := 0, locals := 0 } : Room) (dC, dI) (tyA cB cI cJ cZ cQ) (WM cI cJ cZ q) A [.ref (q 0), .int (iI x1)] (fun z u => A = u ∧ r_X12_placeOf x1 A z ∧ (0 ≤ z ∧ z ≤ 7)) := by
  refine x_meti (cc := cX12_placeOf) (maxL := 2) WM_adr (by decide +kernel) rfl (Nat.le_of_ble_eq_true rfl) (fun p e s m below meth c Q AS ls hx hb hml hown hts hK hDD hA0 hP hS hl RET => ?_)
  have hown : s.vm.findClass RX12 = some m.cls := hown
  have hl : lv_has ls 2 [(0, .ref (q 0)), (1, .int (iI x1))] := hl
  have hiX12 : ∀ w ∈ u_ws RX12 TX12 85, w ∈ ws_mc_X12_placeOf := fun w h => List.mem_cons_of_mem _ (wx_lay w h)
  obtain ⟨H, hHe⟩ : ∃ H : Heap, H = s.heap := ⟨_, rfl⟩
  rw [← hHe] at hP
  have hS : va_S AS s.heap H [] := by rw [hHe]; exact hS
  suffices hgo : ∀ locs : List Loc, va_S AS s.heap H locs → W p l e (headSpec ws_mc_X12_placeOf ({ frames := 0, cells := 0, slots := 0, locals := 0 } : Room)).room s m [.ref (q 0), .int (iI x1)].toArray below meth c H locs 0 0 Q (F0 m 0 ls []) by
    have := hgo [] hS
    rw [hHe] at this
    exact this
  clear hS hHe
  intro locs hS
  refine lv_aload_n hx hb dX12_placeOf_0 rfl (lv_at hl 0 rfl) ?_
  refine va_get (D := (dC, dI)) (ci := 12) (v := .ref (q 18)) (C := RX12) (T := TX12) (N := 85) hx hb hts hiX12 hown hK hP 0 wm0 rfl 29 (by decide) (hts _ (List.mem_cons_of_mem _ (wl_in_3 _ (List.mem_of_getElem? (i := 4) rfl)))) (fun _ h9 => h9) rfl dX12_placeOf_1 ?_
  refine lv_iconst (v := iI 3) hx hb dX12_placeOf_4 (by decide +kernel) ?_
  refine lv_aload_n hx hb dX12_placeOf_5 rfl (lv_at hl 0 rfl) ?_
  refine va_get (D := (dC, dI)) (ci := 12) (v := .int (iI (A 0 12))) (C := RX12) (T := TX12) (N := 85) hx hb hts hiX12 hown hK hP 0 wm0 rfl 12 (by decide) (hts _ (List.mem_cons_of_mem _ (wl_in_4 _ (List.mem_of_getElem? (i := 14) rfl)))) (fun _ h9 => h9) rfl dX12_placeOf_6 ?_
  have r_A_0_12 : (0 : Int) ≤ (A 0 12) ∧ (A 0 12) ≤ 1 := hI 0 12
  refine x_mulv (v := 3 * (A 0 12)) hx hb dX12_placeOf_9 (by omega) ?_
  refine lv_iload_n hx hb dX12_placeOf_10 rfl (lv_at hl 1 rfl) ?_
  refine x_addv (v := 3 * (A 0 12) + x1) hx hb dX12_placeOf_11 (by omega) ?_
  refine x_iald hx hb hK hP 18 1 wm18 rfl (by omega) (by decide) dX12_placeOf_12 (fun z1 hz1 => ?_)
  have rz1 : (0 : Int) ≤ z1 ∧ z1 ≤ 7 := by rw [hz1]; exact hI 18 _
  have gz1 := Hd.mk hz1
  have hz1 : z1 = A 18 (3 * (A 0 12) + x1).toNat := hz1
  exact RET z1 _ _ _ _ _ ⟨rfl, (u_r_X12_placeOf ⟨z1, gz1.out, rfl⟩), by omega⟩ hP hS dX12_placeOf_13

abbrev tr_r_X12_isAt (x1 : Int) (x2 : Int) (A : St) (z : Int) : Prop := (∃ z1 : Int, q_X12_door10 x2 A z1 ∧ (∃ z4 : Int, z4 = A 6 (10 * (A 0 12) + x2).toNat ∧ (((z4 = x1) ∧ (z = 1)) ∨ ((¬ z4 = x1) ∧ (∃ z6 : Int, q_X12_door10 x2 A z6 ∧ (∃ z9 : Int, z9 = A 7 (10 * (A 0 12) + x2).toNat ∧ (((¬ z9 = x1) ∧ (z = 0)) ∨ ((z9 = x1) ∧ (z = 1)))))))))
def r_X12_isAt (x1 : Int) (x2 : Int) (A : St) (z : Int) : Prop := tr_r_X12_isAt x1 x2 A z
theorem u_r_X12_isAt {x1 : Int} {x2 : Int} {A : St} {z : Int} (h : tr_r_X12_isAt x1 x2 A z) : r_X12_isAt x1 x2 A z := h
def q_X12_isAt (x1 : Int) (x2 : Int) (A : St) (z : Int) : Prop := r_X12_isAt x1 x2 A z ∧ (0 ≤ z ∧ z ≤ 1)
def ws_mc_X12_isAt : List Cond := .code yX12_isAt cX12_isAt 3 (some .boolean) :: WX
set_option maxHeartbeats 4000000 in
set_option maxRecDepth 100000 in
theorem mc_X12_isAt (l : Launch) (dC : Nat → ClassId) (dI : Nat → Nat → Nat) (cB cI cJ cZ cQ : ClassId) (q : Nat → Nat) (A : St) (x1 x2 : Int) (hI : IM A) (hx1 : (-2147483648 : Int) ≤ x1 ∧ x1 ≤ 2147483647) (hx2 : (0 : Int) ≤ x2 ∧ x2 ≤ 9) : XMi l yX12_isAt ws_mc_X12_isAt ({ frames := 1, cells := 0, slots := 0, locals := 21 } : Room) (dC, dI) (tyA cB cI cJ cZ cQ) (WM cI cJ cZ q) A [.ref (q 0), .int (iI x1), .int (iI x2)] (fun z u => A = u ∧ r_X12_isAt x1 x2 A z ∧ (0 ≤ z ∧ z ≤ 1)) := by
  refine x_metz (cc := cX12_isAt) (maxL := 3) WM_adr (by decide +kernel) rfl (Nat.le_of_ble_eq_true rfl) (fun z u h => h.2.2) (fun p e s m below meth c Q AS ls hx hb hml hown hts hK hDD hA0 hP hS hl RET => ?_)
  have hown : s.vm.findClass RX12 = some m.cls := hown
  have hl : lv_has ls 3 [(0, .ref (q 0)), (1, .int (iI x1)), (2, .int (iI x2))] := hl
  have hiX12 : ∀ w ∈ u_ws RX12 TX12 85, w ∈ ws_mc_X12_isAt := fun w h => List.mem_cons_of_mem _ (wx_lay w h)
  obtain ⟨H, hHe⟩ : ∃ H : Heap, H = s.heap := ⟨_, rfl⟩
  rw [← hHe] at hP
  have hS : va_S AS s.heap H [] := by rw [hHe]; exact hS
  suffices hgo : ∀ locs : List Loc, va_S AS s.heap H locs → W p l e (headSpec ws_mc_X12_isAt ({ frames := 1, cells := 0, slots := 0, locals := 21 } : Room)).room s m [.ref (q 0), .int (iI x1), .int (iI x2)].toArray below meth c H locs 0 0 Q (F0 m 0 ls []) by
    have := hgo [] hS
    rw [hHe] at this
    exact this
  clear hS hHe
  intro locs hS
  refine lv_aload_n hx hb dX12_isAt_0 rfl (lv_at hl 0 rfl) ?_
  refine va_get (D := (dC, dI)) (ci := 12) (v := .ref (q 6)) (C := RX12) (T := TX12) (N := 85) hx hb hts hiX12 hown hK hP 0 wm0 rfl 17 (by decide) (hts _ (List.mem_cons_of_mem _ (wl_in_2 _ (List.mem_of_getElem? (i := 39) rfl)))) (fun _ h9 => h9) rfl dX12_isAt_1 ?_
  refine lv_aload_n hx hb dX12_isAt_4 rfl (lv_at hl 0 rfl) ?_
  refine lv_iload_n hx hb dX12_isAt_5 rfl (lv_at hl 2 rfl) ?_
  have r_A_0_12 : (0 : Int) ≤ (A 0 12) ∧ (A 0 12) ≤ 1 := hI 0 12
  refine x_calli (As := [.int (iI x2)]) (rest := [.ref (q 6)]) ⟨hx, hb, hml, hown, hts⟩ (mc_X12_door10 l dC dI cB cI cJ cZ cQ q _ x2 hI hx2) (cwV 1 hts (goodV (wl_in_4 _ (List.mem_of_getElem? (i := 49) rfl)) (wl_in_4 _ (List.mem_of_getElem? (i := 50) rfl)) (wl_in_4 _ (List.mem_of_getElem? (i := 51) rfl)) (wl_in_0 _ (List.mem_of_getElem? (i := 8) rfl)) (wl_in_4 _ (List.mem_of_getElem? (i := 42) rfl))) rfl rfl rfl (by decide +kernel) ⟨Nat.le_of_ble_eq_true rfl, Nat.le_of_ble_eq_true rfl⟩) hK hDD hA0 hP hS 0 12 wm0 rfl rfl hl.1 (Nat.le_of_ble_eq_true rfl) dX12_isAt_6 (fun z1 A2 H locs hw3 hP hS => ?_)
  obtain ⟨rfl, hw3⟩ := hw3
  have ghw3 : q_X12_door10 x2 A z1 := hw3
  have hw3 := hw3.2
  refine tp_i (y := iI (10 * (A 0 12) + x2)) (congrArg iI (show z1 = 10 * (A 0 12) + x2 by omega)) ?_
  clear hw3
  refine x_iald hx hb hK hP 6 1 wm6 rfl (by omega) (by decide) dX12_isAt_9 (fun z4 hz4 => ?_)
  have rz4 : (0 : Int) ≤ z4 ∧ z4 ≤ 7 := by rw [hz4]; exact hI 6 _
  have gz4 := Hd.mk hz4
  have hz4 : z4 = A 6 (10 * (A 0 12) + x2).toNat := hz4
  refine lv_iload_n hx hb dX12_isAt_10 rfl (lv_at hl 1 rfl) ?_
  refine lv_icmp_eq (tgt := 28) hx hb dX12_isAt_11 (by decide) (fun c5 => ?_) (fun c5 => ?_)
  · have c5 : z4 = x1 := (i_eq (rb rz4 (by decide) (by decide)) hx1).mp c5
    refine lv_iconst (v := iI 1) hx hb dX12_isAt_28 (by decide +kernel) ?_
    refine lv_goto (tgt := 33) hx hb dX12_isAt_29 (by decide) ?_
    exact RET 1 _ _ _ _ _ ⟨rfl, (u_r_X12_isAt ⟨z1, ghw3, ⟨z4, gz4.out, (Or.inl ⟨c5, rfl⟩)⟩⟩), by omega⟩ hP hS dX12_isAt_33
  · have c5 : ¬ z4 = x1 := mt (i_eq (rb rz4 (by decide) (by decide)) hx1).mpr c5
    refine lv_aload_n hx hb dX12_isAt_14 rfl (lv_at hl 0 rfl) ?_
    refine va_get (D := (dC, dI)) (ci := 12) (v := .ref (q 7)) (C := RX12) (T := TX12) (N := 85) hx hb hts hiX12 hown hK hP 0 wm0 rfl 18 (by decide) (hts _ (List.mem_cons_of_mem _ (wl_in_2 _ (List.mem_of_getElem? (i := 40) rfl)))) (fun _ h9 => h9) rfl dX12_isAt_15 ?_
    refine lv_aload_n hx hb dX12_isAt_18 rfl (lv_at hl 0 rfl) ?_
    refine lv_iload_n hx hb dX12_isAt_19 rfl (lv_at hl 2 rfl) ?_
    refine x_calli (As := [.int (iI x2)]) (rest := [.ref (q 7)]) ⟨hx, hb, hml, hown, hts⟩ (mc_X12_door10 l dC dI cB cI cJ cZ cQ q _ x2 hI hx2) (cwV 1 hts (goodV (wl_in_4 _ (List.mem_of_getElem? (i := 49) rfl)) (wl_in_4 _ (List.mem_of_getElem? (i := 50) rfl)) (wl_in_4 _ (List.mem_of_getElem? (i := 51) rfl)) (wl_in_0 _ (List.mem_of_getElem? (i := 8) rfl)) (wl_in_4 _ (List.mem_of_getElem? (i := 42) rfl))) rfl rfl rfl (by decide +kernel) ⟨Nat.le_of_ble_eq_true rfl, Nat.le_of_ble_eq_true rfl⟩) hK hDD hA0 hP hS 0 12 wm0 rfl rfl hl.1 (Nat.le_of_ble_eq_true rfl) dX12_isAt_20 (fun z6 A7 H locs hw8 hP hS => ?_)
    obtain ⟨rfl, hw8⟩ := hw8
    have ghw8 : q_X12_door10 x2 A z6 := hw8
    have hw8 := hw8.2
    refine tp_i (y := iI (10 * (A 0 12) + x2)) (congrArg iI (show z6 = 10 * (A 0 12) + x2 by omega)) ?_
    clear hw8
    refine x_iald hx hb hK hP 7 1 wm7 rfl (by omega) (by decide) dX12_isAt_23 (fun z9 hz9 => ?_)
    have rz9 : (0 : Int) ≤ z9 ∧ z9 ≤ 7 := by rw [hz9]; exact hI 7 _
    have gz9 := Hd.mk hz9
    have hz9 : z9 = A 7 (10 * (A 0 12) + x2).toNat := hz9
    refine lv_iload_n hx hb dX12_isAt_24 rfl (lv_at hl 1 rfl) ?_
    refine lv_icmp_ne (tgt := 32) hx hb dX12_isAt_25 (by decide) (fun c10 => ?_) (fun c10 => ?_)
    · have c10 : ¬ z9 = x1 := mt (i_eq (rb rz9 (by decide) (by decide)) hx1).mpr c10
      refine lv_iconst (v := iI 0) hx hb dX12_isAt_32 (by decide +kernel) ?_
      exact RET 0 _ _ _ _ _ ⟨rfl, (u_r_X12_isAt ⟨z1, ghw3, ⟨z4, gz4.out, (Or.inr ⟨c5, ⟨z6, ghw8, ⟨z9, gz9.out, (Or.inl ⟨c10, rfl⟩)⟩⟩⟩)⟩⟩), by omega⟩ hP hS dX12_isAt_33
    · have c10 : z9 = x1 := (i_eq (rb rz9 (by decide) (by decide)) hx1).mp c10
      refine lv_iconst (v := iI 1) hx hb dX12_isAt_28 (by decide +kernel) ?_
      refine lv_goto (tgt := 33) hx hb dX12_isAt_29 (by decide) ?_
      exact RET 1 _ _ _ _ _ ⟨rfl, (u_r_X12_isAt ⟨z1, ghw3, ⟨z4, gz4.out, (Or.inr ⟨c5, ⟨z6, ghw8, ⟨z9, gz9.out, (Or.inr ⟨c10, rfl⟩)⟩⟩⟩)⟩⟩), by omega⟩ hP hS dX12_isAt_33

abbrev tr_r_X12_otherSide (x1 : Int) (x2 : Int) (A : St) (z : Int) : Prop := (∃ z1 : Int, q_X12_door10 x1 A z1 ∧ (∃ z4 : Int, z4 = A 6 (10 * (A 0 12) + x1).toNat ∧ (((¬ z4 = x2) ∧ (∃ z6 : Int, q_X12_door10 x1 A z6 ∧ (∃ z9 : Int, z9 = A 6 (10 * (A 0 12) + x1).toNat ∧ (z = z9)))) ∨ ((z4 = x2) ∧ (∃ z10 : Int, q_X12_door10 x1 A z10 ∧ (∃ z13 : Int, z13 = A 7 (10 * (A 0 12) + x1).toNat ∧ (z = z13)))))))
def r_X12_otherSide (x1 : Int) (x2 : Int) (A : St) (z : Int) : Prop := tr_r_X12_otherSide x1 x2 A z
theorem u_r_X12_otherSide {x1 : Int} {x2 : Int} {A : St} {z : Int} (h : tr_r_X12_otherSide x1 x2 A z) : r_X12_otherSide x1 x2 A z := h
def q_X12_otherSide (x1 : Int) (x2 : Int) (A : St) (z : Int) : Prop := r_X12_otherSide x1 x2 A z ∧ (0 ≤ z ∧ z ≤ 7)
def ws_mc_X12_otherSide : List Cond := .code yX12_otherSide cX12_otherSide 3 (some .int) :: WX
set_option maxHeartbeats 4000000 in
set_option maxRecDepth 100000 in
theorem mc_X12_otherSide (l : Launch) (dC : Nat → ClassId) (dI : Nat → Nat → Nat) (cB cI cJ cZ cQ : ClassId) (q : Nat → Nat) (A : St) (x1 x2 : Int) (hI : IM A) (hx1 : (0 : Int) ≤ x1 ∧ x1 ≤ 9) (hx2 : (-2147483648 : Int) ≤ x2 ∧ x2 ≤ 2147483647) : XMi l yX12_otherSide ws_mc_X12_otherSide ({ frames := 1, cells := 0, slots := 0, locals := 21 } : Room) (dC, dI) (tyA cB cI cJ cZ cQ) (WM cI cJ cZ q) A [.ref (q 0), .int (iI x1), .int (iI x2)] (fun z u => A = u ∧ r_X12_otherSide x1 x2 A z ∧ (0 ≤ z ∧ z ≤ 7)) := by
  refine x_meti (cc := cX12_otherSide) (maxL := 3) WM_adr (by decide +kernel) rfl (Nat.le_of_ble_eq_true rfl) (fun p e s m below meth c Q AS ls hx hb hml hown hts hK hDD hA0 hP hS hl RET => ?_)
  have hown : s.vm.findClass RX12 = some m.cls := hown
  have hl : lv_has ls 3 [(0, .ref (q 0)), (1, .int (iI x1)), (2, .int (iI x2))] := hl
  have hiX12 : ∀ w ∈ u_ws RX12 TX12 85, w ∈ ws_mc_X12_otherSide := fun w h => List.mem_cons_of_mem _ (wx_lay w h)
  obtain ⟨H, hHe⟩ : ∃ H : Heap, H = s.heap := ⟨_, rfl⟩
  rw [← hHe] at hP
  have hS : va_S AS s.heap H [] := by rw [hHe]; exact hS
  suffices hgo : ∀ locs : List Loc, va_S AS s.heap H locs → W p l e (headSpec ws_mc_X12_otherSide ({ frames := 1, cells := 0, slots := 0, locals := 21 } : Room)).room s m [.ref (q 0), .int (iI x1), .int (iI x2)].toArray below meth c H locs 0 0 Q (F0 m 0 ls []) by
    have := hgo [] hS
    rw [hHe] at this
    exact this
  clear hS hHe
  intro locs hS
  refine lv_aload_n hx hb dX12_otherSide_0 rfl (lv_at hl 0 rfl) ?_
  refine va_get (D := (dC, dI)) (ci := 12) (v := .ref (q 6)) (C := RX12) (T := TX12) (N := 85) hx hb hts hiX12 hown hK hP 0 wm0 rfl 17 (by decide) (hts _ (List.mem_cons_of_mem _ (wl_in_2 _ (List.mem_of_getElem? (i := 39) rfl)))) (fun _ h9 => h9) rfl dX12_otherSide_1 ?_
  refine lv_aload_n hx hb dX12_otherSide_4 rfl (lv_at hl 0 rfl) ?_
  refine lv_iload_n hx hb dX12_otherSide_5 rfl (lv_at hl 1 rfl) ?_
  have r_A_0_12 : (0 : Int) ≤ (A 0 12) ∧ (A 0 12) ≤ 1 := hI 0 12
  refine x_calli (As := [.int (iI x1)]) (rest := [.ref (q 6)]) ⟨hx, hb, hml, hown, hts⟩ (mc_X12_door10 l dC dI cB cI cJ cZ cQ q _ x1 hI hx1) (cwV 1 hts (goodV (wl_in_4 _ (List.mem_of_getElem? (i := 49) rfl)) (wl_in_4 _ (List.mem_of_getElem? (i := 50) rfl)) (wl_in_4 _ (List.mem_of_getElem? (i := 51) rfl)) (wl_in_0 _ (List.mem_of_getElem? (i := 8) rfl)) (wl_in_4 _ (List.mem_of_getElem? (i := 42) rfl))) rfl rfl rfl (by decide +kernel) ⟨Nat.le_of_ble_eq_true rfl, Nat.le_of_ble_eq_true rfl⟩) hK hDD hA0 hP hS 0 12 wm0 rfl rfl hl.1 (Nat.le_of_ble_eq_true rfl) dX12_otherSide_6 (fun z1 A2 H locs hw3 hP hS => ?_)
  obtain ⟨rfl, hw3⟩ := hw3
  have ghw3 : q_X12_door10 x1 A z1 := hw3
  have hw3 := hw3.2
  refine tp_i (y := iI (10 * (A 0 12) + x1)) (congrArg iI (show z1 = 10 * (A 0 12) + x1 by omega)) ?_
  clear hw3
  refine x_iald hx hb hK hP 6 1 wm6 rfl (by omega) (by decide) dX12_otherSide_9 (fun z4 hz4 => ?_)
  have rz4 : (0 : Int) ≤ z4 ∧ z4 ≤ 7 := by rw [hz4]; exact hI 6 _
  have gz4 := Hd.mk hz4
  have hz4 : z4 = A 6 (10 * (A 0 12) + x1).toNat := hz4
  refine lv_iload_n hx hb dX12_otherSide_10 rfl (lv_at hl 2 rfl) ?_
  refine lv_icmp_ne (tgt := 27) hx hb dX12_otherSide_11 (by decide) (fun c5 => ?_) (fun c5 => ?_)
  · have c5 : ¬ z4 = x2 := mt (i_eq (rb rz4 (by decide) (by decide)) hx2).mpr c5
    refine lv_aload_n hx hb dX12_otherSide_27 rfl (lv_at hl 0 rfl) ?_
    refine va_get (D := (dC, dI)) (ci := 12) (v := .ref (q 6)) (C := RX12) (T := TX12) (N := 85) hx hb hts hiX12 hown hK hP 0 wm0 rfl 17 (by decide) (hts _ (List.mem_cons_of_mem _ (wl_in_2 _ (List.mem_of_getElem? (i := 39) rfl)))) (fun _ h9 => h9) rfl dX12_otherSide_28 ?_
    refine lv_aload_n hx hb dX12_otherSide_31 rfl (lv_at hl 0 rfl) ?_
    refine lv_iload_n hx hb dX12_otherSide_32 rfl (lv_at hl 1 rfl) ?_
    refine x_calli (As := [.int (iI x1)]) (rest := [.ref (q 6)]) ⟨hx, hb, hml, hown, hts⟩ (mc_X12_door10 l dC dI cB cI cJ cZ cQ q _ x1 hI hx1) (cwV 1 hts (goodV (wl_in_4 _ (List.mem_of_getElem? (i := 49) rfl)) (wl_in_4 _ (List.mem_of_getElem? (i := 50) rfl)) (wl_in_4 _ (List.mem_of_getElem? (i := 51) rfl)) (wl_in_0 _ (List.mem_of_getElem? (i := 8) rfl)) (wl_in_4 _ (List.mem_of_getElem? (i := 42) rfl))) rfl rfl rfl (by decide +kernel) ⟨Nat.le_of_ble_eq_true rfl, Nat.le_of_ble_eq_true rfl⟩) hK hDD hA0 hP hS 0 12 wm0 rfl rfl hl.1 (Nat.le_of_ble_eq_true rfl) dX12_otherSide_33 (fun z6 A7 H locs hw8 hP hS => ?_)
    obtain ⟨rfl, hw8⟩ := hw8
    have ghw8 : q_X12_door10 x1 A z6 := hw8
    have hw8 := hw8.2
    refine tp_i (y := iI (10 * (A 0 12) + x1)) (congrArg iI (show z6 = 10 * (A 0 12) + x1 by omega)) ?_
    clear hw8
    refine x_iald hx hb hK hP 6 1 wm6 rfl (by omega) (by decide) dX12_otherSide_36 (fun z9 hz9 => ?_)
    have rz9 : (0 : Int) ≤ z9 ∧ z9 ≤ 7 := by rw [hz9]; exact hI 6 _
    have gz9 := Hd.mk hz9
    have hz9 : z9 = A 6 (10 * (A 0 12) + x1).toNat := hz9
    have ez9 : z9 = z4 := hz9.trans hz4.symm
    exact RET z9 _ _ _ _ _ ⟨rfl, (u_r_X12_otherSide ⟨z1, ghw3, ⟨z4, gz4.out, (Or.inl ⟨c5, ⟨z6, ghw8, ⟨z9, gz9.out, rfl⟩⟩⟩)⟩⟩), by omega⟩ hP hS dX12_otherSide_37
  · have c5 : z4 = x2 := (i_eq (rb rz4 (by decide) (by decide)) hx2).mp c5
    refine lv_aload_n hx hb dX12_otherSide_14 rfl (lv_at hl 0 rfl) ?_
    refine va_get (D := (dC, dI)) (ci := 12) (v := .ref (q 7)) (C := RX12) (T := TX12) (N := 85) hx hb hts hiX12 hown hK hP 0 wm0 rfl 18 (by decide) (hts _ (List.mem_cons_of_mem _ (wl_in_2 _ (List.mem_of_getElem? (i := 40) rfl)))) (fun _ h9 => h9) rfl dX12_otherSide_15 ?_
    refine lv_aload_n hx hb dX12_otherSide_18 rfl (lv_at hl 0 rfl) ?_
    refine lv_iload_n hx hb dX12_otherSide_19 rfl (lv_at hl 1 rfl) ?_
    refine x_calli (As := [.int (iI x1)]) (rest := [.ref (q 7)]) ⟨hx, hb, hml, hown, hts⟩ (mc_X12_door10 l dC dI cB cI cJ cZ cQ q _ x1 hI hx1) (cwV 1 hts (goodV (wl_in_4 _ (List.mem_of_getElem? (i := 49) rfl)) (wl_in_4 _ (List.mem_of_getElem? (i := 50) rfl)) (wl_in_4 _ (List.mem_of_getElem? (i := 51) rfl)) (wl_in_0 _ (List.mem_of_getElem? (i := 8) rfl)) (wl_in_4 _ (List.mem_of_getElem? (i := 42) rfl))) rfl rfl rfl (by decide +kernel) ⟨Nat.le_of_ble_eq_true rfl, Nat.le_of_ble_eq_true rfl⟩) hK hDD hA0 hP hS 0 12 wm0 rfl rfl hl.1 (Nat.le_of_ble_eq_true rfl) dX12_otherSide_20 (fun z10 A11 H locs hw12 hP hS => ?_)
    obtain ⟨rfl, hw12⟩ := hw12
    have ghw12 : q_X12_door10 x1 A z10 := hw12
    have hw12 := hw12.2
    refine tp_i (y := iI (10 * (A 0 12) + x1)) (congrArg iI (show z10 = 10 * (A 0 12) + x1 by omega)) ?_
    clear hw12
    refine x_iald hx hb hK hP 7 1 wm7 rfl (by omega) (by decide) dX12_otherSide_23 (fun z13 hz13 => ?_)
    have rz13 : (0 : Int) ≤ z13 ∧ z13 ≤ 7 := by rw [hz13]; exact hI 7 _
    have gz13 := Hd.mk hz13
    have hz13 : z13 = A 7 (10 * (A 0 12) + x1).toNat := hz13
    refine lv_goto (tgt := 37) hx hb dX12_otherSide_24 (by decide) ?_
    exact RET z13 _ _ _ _ _ ⟨rfl, (u_r_X12_otherSide ⟨z1, ghw3, ⟨z4, gz4.out, (Or.inr ⟨c5, ⟨z10, ghw12, ⟨z13, gz13.out, rfl⟩⟩⟩)⟩⟩), by omega⟩ hP hS dX12_otherSide_37

abbrev tr_r_X12_fault (x1 : Int) (A : St) (z : Int) : Prop := (((¬ x1 = 0) ∧ (((¬ x1 = 1) ∧ (z = (-1))) ∨ ((x1 = 1) ∧ (z = (A 0 11))))) ∨ ((x1 = 0) ∧ (z = (A 0 10))))
def r_X12_fault (x1 : Int) (A : St) (z : Int) : Prop := tr_r_X12_fault x1 A z
theorem u_r_X12_fault {x1 : Int} {A : St} {z : Int} (h : tr_r_X12_fault x1 A z) : r_X12_fault x1 A z := h
def ws_mc_X12_fault : List Cond := .code yX12_fault cX12_fault 2 (some .int) :: WX
set_option maxHeartbeats 4000000 in
set_option maxRecDepth 100000 in
theorem mc_X12_fault (l : Launch) (dC : Nat → ClassId) (dI : Nat → Nat → Nat) (cB cI cJ cZ cQ : ClassId) (q : Nat → Nat) (A : St) (x1 : Int) (hI : IM A) (hx1 : (-2147483648 : Int) ≤ x1 ∧ x1 ≤ 2147483647) : XMi l yX12_fault ws_mc_X12_fault ({ frames := 0, cells := 0, slots := 0, locals := 0 } : Room) (dC, dI) (tyA cB cI cJ cZ cQ) (WM cI cJ cZ q) A [.ref (q 0), .int (iI x1)] (fun z u => A = u ∧ r_X12_fault x1 A z ∧ (-2147483648 ≤ z ∧ z ≤ 2147483647)) := by
  refine x_meti (cc := cX12_fault) (maxL := 2) WM_adr (by decide +kernel) rfl (Nat.le_of_ble_eq_true rfl) (fun p e s m below meth c Q AS ls hx hb hml hown hts hK hDD hA0 hP hS hl RET => ?_)
  have hown : s.vm.findClass RX12 = some m.cls := hown
  have hl : lv_has ls 2 [(0, .ref (q 0)), (1, .int (iI x1))] := hl
  have hiX12 : ∀ w ∈ u_ws RX12 TX12 85, w ∈ ws_mc_X12_fault := fun w h => List.mem_cons_of_mem _ (wx_lay w h)
  obtain ⟨H, hHe⟩ : ∃ H : Heap, H = s.heap := ⟨_, rfl⟩
  rw [← hHe] at hP
  have hS : va_S AS s.heap H [] := by rw [hHe]; exact hS
  suffices hgo : ∀ locs : List Loc, va_S AS s.heap H locs → W p l e (headSpec ws_mc_X12_fault ({ frames := 0, cells := 0, slots := 0, locals := 0 } : Room)).room s m [.ref (q 0), .int (iI x1)].toArray below meth c H locs 0 0 Q (F0 m 0 ls []) by
    have := hgo [] hS
    rw [hHe] at this
    exact this
  clear hS hHe
  intro locs hS
  refine lv_iload_n hx hb dX12_fault_0 rfl (lv_at hl 1 rfl) ?_
  refine lv_if_ne (tgt := 11) hx hb dX12_fault_1 (by decide) (fun c1 => ?_) (fun c1 => ?_)
  · have c1 : ¬ x1 = 0 := mt (i_eq0 hx1).mpr c1
    refine lv_iload_n hx hb dX12_fault_11 rfl (lv_at hl 1 rfl) ?_
    refine lv_iconst (v := iI 1) hx hb dX12_fault_12 (by decide +kernel) ?_
    refine lv_icmp_ne (tgt := 23) hx hb dX12_fault_13 (by decide) (fun c2 => ?_) (fun c2 => ?_)
    · have c2 : ¬ x1 = 1 := mt (i_eq hx1 ⟨by decide, by decide⟩).mpr c2
      refine lv_iconst (v := iI (-1)) hx hb dX12_fault_23 (by decide +kernel) ?_
      exact RET (-1) _ _ _ _ _ ⟨rfl, (u_r_X12_fault (Or.inl ⟨c1, (Or.inl ⟨c2, rfl⟩)⟩)), by omega⟩ hP hS dX12_fault_24
    · have c2 : x1 = 1 := (i_eq hx1 ⟨by decide, by decide⟩).mp c2
      refine lv_aload_n hx hb dX12_fault_16 rfl (lv_at hl 0 rfl) ?_
      refine va_get (D := (dC, dI)) (ci := 12) (v := .int (iI (A 0 11))) (C := RX12) (T := TX12) (N := 85) hx hb hts hiX12 hown hK hP 0 wm0 rfl 11 (by decide) (hts _ (List.mem_cons_of_mem _ (wl_in_4 _ (List.mem_of_getElem? (i := 16) rfl)))) (fun _ h9 => h9) rfl dX12_fault_17 ?_
      have r_A_0_11 : (-1 : Int) ≤ (A 0 11) ∧ (A 0 11) ≤ 1600 := hI 0 11
      refine lv_goto (tgt := 24) hx hb dX12_fault_20 (by decide) ?_
      exact RET (A 0 11) _ _ _ _ _ ⟨rfl, (u_r_X12_fault (Or.inl ⟨c1, (Or.inr ⟨c2, rfl⟩)⟩)), by omega⟩ hP hS dX12_fault_24
  · have c1 : x1 = 0 := (i_eq0 hx1).mp c1
    refine lv_aload_n hx hb dX12_fault_4 rfl (lv_at hl 0 rfl) ?_
    refine va_get (D := (dC, dI)) (ci := 12) (v := .int (iI (A 0 10))) (C := RX12) (T := TX12) (N := 85) hx hb hts hiX12 hown hK hP 0 wm0 rfl 10 (by decide) (hts _ (List.mem_cons_of_mem _ (wl_in_4 _ (List.mem_of_getElem? (i := 15) rfl)))) (fun _ h9 => h9) rfl dX12_fault_5 ?_
    have r_A_0_10 : (0 : Int) ≤ (A 0 10) ∧ (A 0 10) ≤ 5 := hI 0 10
    refine lv_goto (tgt := 24) hx hb dX12_fault_8 (by decide) ?_
    exact RET (A 0 10) _ _ _ _ _ ⟨rfl, (u_r_X12_fault (Or.inr ⟨c1, rfl⟩)), by omega⟩ hP hS dX12_fault_24

abbrev tr_r_X12_status (x1 : Int) (A : St) (z : Int) : Prop := (∃ z1 : Int, q_X12_is x1 0 5 A z1 ∧ (((z1 = 0) ∧ (z = (-1))) ∨ ((¬ z1 = 0) ∧ (∃ z5 : Int, z5 = A 41 (x1).toNat ∧ (z = z5)))))
def r_X12_status (x1 : Int) (A : St) (z : Int) : Prop := tr_r_X12_status x1 A z
theorem u_r_X12_status {x1 : Int} {A : St} {z : Int} (h : tr_r_X12_status x1 A z) : r_X12_status x1 A z := h
def ws_mc_X12_status : List Cond := .code yX12_status cX12_status 2 (some .int) :: WX
set_option maxHeartbeats 4000000 in
set_option maxRecDepth 100000 in
theorem mc_X12_status (l : Launch) (dC : Nat → ClassId) (dI : Nat → Nat → Nat) (cB cI cJ cZ cQ : ClassId) (q : Nat → Nat) (A : St) (x1 : Int) (hI : IM A) (hx1 : (-2147483648 : Int) ≤ x1 ∧ x1 ≤ 2147483647) : XMi l yX12_status ws_mc_X12_status ({ frames := 1, cells := 0, slots := 0, locals := 22 } : Room) (dC, dI) (tyA cB cI cJ cZ cQ) (WM cI cJ cZ q) A [.ref (q 0), .int (iI x1)] (fun z u => A = u ∧ r_X12_status x1 A z ∧ (-2147483648 ≤ z ∧ z ≤ 2147483647)) := by
  refine x_meti (cc := cX12_status) (maxL := 2) WM_adr (by decide +kernel) rfl (Nat.le_of_ble_eq_true rfl) (fun p e s m below meth c Q AS ls hx hb hml hown hts hK hDD hA0 hP hS hl RET => ?_)
  have hown : s.vm.findClass RX12 = some m.cls := hown
  have hl : lv_has ls 2 [(0, .ref (q 0)), (1, .int (iI x1))] := hl
  have hiX12 : ∀ w ∈ u_ws RX12 TX12 85, w ∈ ws_mc_X12_status := fun w h => List.mem_cons_of_mem _ (wx_lay w h)
  obtain ⟨H, hHe⟩ : ∃ H : Heap, H = s.heap := ⟨_, rfl⟩
  rw [← hHe] at hP
  have hS : va_S AS s.heap H [] := by rw [hHe]; exact hS
  suffices hgo : ∀ locs : List Loc, va_S AS s.heap H locs → W p l e (headSpec ws_mc_X12_status ({ frames := 1, cells := 0, slots := 0, locals := 22 } : Room)).room s m [.ref (q 0), .int (iI x1)].toArray below meth c H locs 0 0 Q (F0 m 0 ls []) by
    have := hgo [] hS
    rw [hHe] at this
    exact this
  clear hS hHe
  intro locs hS
  refine lv_iload_n hx hb dX12_status_0 rfl (lv_at hl 1 rfl) ?_
  refine lv_iconst (v := iI 0) hx hb dX12_status_1 (by decide +kernel) ?_
  refine lv_iconst (v := iI 5) hx hb dX12_status_2 (by decide +kernel) ?_
  refine x_callSi (As := [.int (iI x1), .int (iI 0), .int (iI 5)]) (rest := []) ⟨hx, hb, hml, hown, hts⟩ (mc_X12_is l dC dI cB cI cJ cZ cQ q _ x1 0 5 hI hx1 ⟨by decide, by decide⟩ ⟨by decide, by decide⟩) (va_cwS 3 hts (goodS (wl_in_1 _ (List.mem_of_getElem? (i := 27) rfl)) (wl_in_1 _ (List.mem_of_getElem? (i := 28) rfl)) (wl_in_0 _ (List.mem_of_getElem? (i := 8) rfl)) (wl_in_0 _ (List.mem_of_getElem? (i := 0) rfl))) rfl rfl rfl (by decide +kernel) ⟨Nat.le_of_ble_eq_true rfl, Nat.le_of_ble_eq_true rfl⟩) hK hDD hA0 hP hS rfl hl.1 (Nat.le_of_ble_eq_true rfl) dX12_status_3 (fun z1 A2 H locs hw3 hP hS => ?_)
  obtain ⟨rfl, hw3⟩ := hw3
  have ghw3 : q_X12_is x1 0 5 A z1 := hw3
  have hw3 := hw3.2
  have rz1 : 0 ≤ z1 ∧ z1 ≤ 1 := hw3.1
  refine lv_if_eq (tgt := 18) hx hb dX12_status_6 (by decide) (fun c4 => ?_) (fun c4 => ?_)
  · have c4 : z1 = 0 := (i_eq0 (rb rz1 (by decide) (by decide))).mp c4
    have hw3b := mt hw3.2.mpr (by omega)
    clear hw3
    refine lv_iconst (v := iI (-1)) hx hb dX12_status_18 (by decide +kernel) ?_
    exact RET (-1) _ _ _ _ _ ⟨rfl, (u_r_X12_status ⟨z1, ghw3, (Or.inl ⟨c4, rfl⟩)⟩), by omega⟩ hP hS dX12_status_19
  · have c4 : ¬ z1 = 0 := mt (i_eq0 (rb rz1 (by decide) (by decide))).mpr c4
    have hw3b := hw3.2.mp (by omega)
    clear hw3
    refine lv_aload_n hx hb dX12_status_9 rfl (lv_at hl 0 rfl) ?_
    refine va_get (D := (dC, dI)) (ci := 12) (v := .ref (q 41)) (C := RX12) (T := TX12) (N := 85) hx hb hts hiX12 hown hK hP 0 wm0 rfl 58 (by decide) (hts _ (List.mem_cons_of_mem _ (wl_in_0 _ (List.mem_of_getElem? (i := 10) rfl)))) (fun _ h9 => h9) rfl dX12_status_10 ?_
    refine lv_iload_n hx hb dX12_status_13 rfl (lv_at hl 1 rfl) ?_
    refine x_iald hx hb hK hP 41 1 wm41 rfl (by omega) (by decide) dX12_status_14 (fun z5 hz5 => ?_)
    have rz5 : (-2147483648 : Int) ≤ z5 ∧ z5 ≤ 2147483647 := by rw [hz5]; exact hI 41 _
    have gz5 := Hd.mk hz5
    have hz5 : z5 = A 41 (x1).toNat := hz5
    refine lv_goto (tgt := 19) hx hb dX12_status_15 (by decide) ?_
    exact RET z5 _ _ _ _ _ ⟨rfl, (u_r_X12_status ⟨z1, ghw3, (Or.inr ⟨c4, ⟨z5, gz5.out, rfl⟩⟩)⟩), by omega⟩ hP hS dX12_status_19

abbrev tr_r_X12_bounded (x1 : Int) (A : St) (z : Int) : Prop := (∃ z1 : Int, ((-1 ≤ z1 ∧ z1 ≤ 1) ∧ (z1 = 0 ↔ x1 = 1000000) ∧ (z1 < 0 ↔ x1 < 1000000)) ∧ (((z1 ≤ 0) ∧ (∃ z3 : Int, ((-1 ≤ z3 ∧ z3 ≤ 1) ∧ (z3 = 0 ↔ x1 = (-1000000)) ∧ (z3 < 0 ↔ x1 < (-1000000))) ∧ (((0 ≤ z3) ∧ (z = x1)) ∨ ((¬ 0 ≤ z3) ∧ (z = (-1000000)))))) ∨ ((¬ z1 ≤ 0) ∧ (z = 1000000))))
def r_X12_bounded (x1 : Int) (A : St) (z : Int) : Prop := tr_r_X12_bounded x1 A z
theorem u_r_X12_bounded {x1 : Int} {A : St} {z : Int} (h : tr_r_X12_bounded x1 A z) : r_X12_bounded x1 A z := h
def q_X12_bounded (x1 : Int) (A : St) (z : Int) : Prop := r_X12_bounded x1 A z ∧ (-9223372036854775808 ≤ z ∧ z ≤ 9223372036854775807)
def ws_mc_X12_bounded : List Cond := .code yX12_bounded cX12_bounded 2 (some .long) :: WX
set_option maxHeartbeats 4000000 in
set_option maxRecDepth 100000 in
theorem mc_X12_bounded (l : Launch) (dC : Nat → ClassId) (dI : Nat → Nat → Nat) (cB cI cJ cZ cQ : ClassId) (q : Nat → Nat) (A : St) (x1 : Int) (hI : IM A) (hx1 : (-9223372036854775808 : Int) ≤ x1 ∧ x1 ≤ 9223372036854775807) : XMl l yX12_bounded ws_mc_X12_bounded ({ frames := 0, cells := 0, slots := 0, locals := 0 } : Room) (dC, dI) (tyA cB cI cJ cZ cQ) (WM cI cJ cZ q) A [.long (jI x1)] (fun z u => A = u ∧ r_X12_bounded x1 A z ∧ (-9223372036854775808 ≤ z ∧ z ≤ 9223372036854775807)) := by
  refine x_metl (cc := cX12_bounded) (maxL := 2) WM_adr (by decide +kernel) rfl (Nat.le_of_ble_eq_true rfl) (fun p e s m below meth c Q AS ls hx hb hml hown hts hK hDD hA0 hP hS hl RET => ?_)
  have hown : s.vm.findClass RX12 = some m.cls := hown
  have hl : lv_has ls 2 [(0, .long (jI x1))] := hl
  obtain ⟨H, hHe⟩ : ∃ H : Heap, H = s.heap := ⟨_, rfl⟩
  rw [← hHe] at hP
  have hS : va_S AS s.heap H [] := by rw [hHe]; exact hS
  suffices hgo : ∀ locs : List Loc, va_S AS s.heap H locs → W p l e (headSpec ws_mc_X12_bounded ({ frames := 0, cells := 0, slots := 0, locals := 0 } : Room)).room s m [.long (jI x1)].toArray below meth c H locs 0 0 Q (F0 m 0 ls []) by
    have := hgo [] hS
    rw [hHe] at this
    exact this
  clear hS hHe
  intro locs hS
  refine lv_lload_n hx hb dX12_bounded_0 rfl (lv_at hl 0 rfl) ?_
  refine lv_ldc2 (v := 1000000) hx hb hown (hts _ (List.mem_cons_of_mem _ (wl_in_4 _ (List.mem_of_getElem? (i := 24) rfl)))) dX12_bounded_1 ?_
  refine tp_l (y := jI 1000000) (by decide +kernel) ?_
  refine x_lcmp hx hb dX12_bounded_4 (by omega) (by omega) (fun z1 hz1 hz1b hz1c => ?_)
  have gz1 := Hd.mk (And.intro hz1 (And.intro hz1b hz1c))
  refine lv_if_le (tgt := 14) hx hb dX12_bounded_5 (by decide) (fun c2 => ?_) (fun c2 => ?_)
  · have c2 : z1 ≤ 0 := (i_le0 (by omega)).mp c2
    refine lv_lload_n hx hb dX12_bounded_14 rfl (lv_at hl 0 rfl) ?_
    refine lv_ldc2 (v := (-1000000)) hx hb hown (hts _ (List.mem_cons_of_mem _ (wl_in_4 _ (List.mem_of_getElem? (i := 25) rfl)))) dX12_bounded_15 ?_
    refine tp_l (y := jI (-1000000)) (by decide +kernel) ?_
    refine x_lcmp hx hb dX12_bounded_18 (by omega) (by omega) (fun z3 hz3 hz3b hz3c => ?_)
    have gz3 := Hd.mk (And.intro hz3 (And.intro hz3b hz3c))
    refine lv_if_ge (tgt := 28) hx hb dX12_bounded_19 (by decide) (fun c4 => ?_) (fun c4 => ?_)
    · have c4 : 0 ≤ z3 := (i_0le (by omega)).mp c4
      refine lv_lload_n hx hb dX12_bounded_28 rfl (lv_at hl 0 rfl) ?_
      exact RET x1 _ _ _ _ _ ⟨rfl, (u_r_X12_bounded ⟨z1, gz1.out, (Or.inl ⟨c2, ⟨z3, gz3.out, (Or.inl ⟨c4, rfl⟩)⟩⟩)⟩), by omega⟩ hP hS dX12_bounded_29
    · have c4 : ¬ 0 ≤ z3 := mt (i_0le (by omega)).mpr c4
      refine lv_ldc2 (v := (-1000000)) hx hb hown (hts _ (List.mem_cons_of_mem _ (wl_in_4 _ (List.mem_of_getElem? (i := 25) rfl)))) dX12_bounded_22 ?_
      refine tp_l (y := jI (-1000000)) (by decide +kernel) ?_
      refine lv_goto (tgt := 29) hx hb dX12_bounded_25 (by decide) ?_
      exact RET (-1000000) _ _ _ _ _ ⟨rfl, (u_r_X12_bounded ⟨z1, gz1.out, (Or.inl ⟨c2, ⟨z3, gz3.out, (Or.inr ⟨c4, rfl⟩)⟩⟩)⟩), by omega⟩ hP hS dX12_bounded_29
  · have c2 : ¬ z1 ≤ 0 := mt (i_le0 (by omega)).mpr c2
    refine lv_ldc2 (v := 1000000) hx hb hown (hts _ (List.mem_cons_of_mem _ (wl_in_4 _ (List.mem_of_getElem? (i := 24) rfl)))) dX12_bounded_8 ?_
    refine tp_l (y := jI 1000000) (by decide +kernel) ?_
    refine lv_goto (tgt := 29) hx hb dX12_bounded_11 (by decide) ?_
    exact RET 1000000 _ _ _ _ _ ⟨rfl, (u_r_X12_bounded ⟨z1, gz1.out, (Or.inr ⟨c2, rfl⟩)⟩), by omega⟩ hP hS dX12_bounded_29

abbrev tr_d_X12_over_2 (z3 : Int) (z10 : Int) (z : Int) (z17 : Int) : Prop := ((0 ≤ z17 ∧ z17 ≤ 1) ∧ (((z10 = z17) ∧ (z = z3)) ∨ ((¬ z10 = z17) ∧ (∃ z22 : Int, z22 = pSub z3 1 ∧ (z = z22)))))
def d_X12_over_2 (z3 : Int) (z10 : Int) (z : Int) (z17 : Int) : Prop := tr_d_X12_over_2 z3 z10 z z17
theorem u_d_X12_over_2 {z3 : Int} {z10 : Int} {z : Int} {z17 : Int} (h : tr_d_X12_over_2 z3 z10 z z17) : d_X12_over_2 z3 z10 z z17 := h
abbrev tr_d_X12_over_1 (x2 : Int) (z3 : Int) (z : Int) (z10 : Int) : Prop := ((0 ≤ z10 ∧ z10 ≤ 1) ∧ (∃ z14 : Int, ((-1 ≤ z14 ∧ z14 ≤ 1) ∧ (z14 = 0 ↔ x2 = 0) ∧ (z14 < 0 ↔ x2 < 0)) ∧ (((0 ≤ z14) ∧ (d_X12_over_2 z3 z10 z 0)) ∨ ((¬ 0 ≤ z14) ∧ (d_X12_over_2 z3 z10 z 1)))))
def d_X12_over_1 (x2 : Int) (z3 : Int) (z : Int) (z10 : Int) : Prop := tr_d_X12_over_1 x2 z3 z z10
theorem u_d_X12_over_1 {x2 : Int} {z3 : Int} {z : Int} {z10 : Int} (h : tr_d_X12_over_1 x2 z3 z z10) : d_X12_over_1 x2 z3 z z10 := h
abbrev tr_r_X12_over (x1 : Int) (x2 : Int) (A : St) (z : Int) : Prop := (∃ z1 : Int, ((-1 ≤ z1 ∧ z1 ≤ 1) ∧ (z1 = 0 ↔ x2 = 0) ∧ (z1 < 0 ↔ x2 < 0)) ∧ (((¬ z1 = 0) ∧ (∃ z3 : Int, z3 = pDiv x1 x2 ∧ (∃ z4 : Int, z4 = pRem x1 x2 ∧ (∃ z5 : Int, ((-1 ≤ z5 ∧ z5 ≤ 1) ∧ (z5 = 0 ↔ z4 = 0) ∧ (z5 < 0 ↔ z4 < 0)) ∧ (((z5 = 0) ∧ (z = z3)) ∨ ((¬ z5 = 0) ∧ (∃ z7 : Int, ((-1 ≤ z7 ∧ z7 ≤ 1) ∧ (z7 = 0 ↔ x1 = 0) ∧ (z7 < 0 ↔ x1 < 0)) ∧ (((0 ≤ z7) ∧ (d_X12_over_1 x2 z3 z 0)) ∨ ((¬ 0 ≤ z7) ∧ (d_X12_over_1 x2 z3 z 1)))))))))) ∨ ((z1 = 0) ∧ (z = 0))))
def r_X12_over (x1 : Int) (x2 : Int) (A : St) (z : Int) : Prop := tr_r_X12_over x1 x2 A z
theorem u_r_X12_over {x1 : Int} {x2 : Int} {A : St} {z : Int} (h : tr_r_X12_over x1 x2 A z) : r_X12_over x1 x2 A z := h
def q_X12_over (x1 : Int) (x2 : Int) (A : St) (z : Int) : Prop := r_X12_over x1 x2 A z ∧ (-9223372036854775808 ≤ z ∧ z ≤ 9223372036854775807)
def ws_mc_X12_over : List Cond := .code yX12_over cX12_over 6 (some .long) :: WX
set_option maxHeartbeats 4000000 in
set_option maxRecDepth 100000 in
theorem mc_X12_over (l : Launch) (dC : Nat → ClassId) (dI : Nat → Nat → Nat) (cB cI cJ cZ cQ : ClassId) (q : Nat → Nat) (A : St) (x1 x2 : Int) (hI : IM A) (hx1 : (-9223372036854775808 : Int) ≤ x1 ∧ x1 ≤ 9223372036854775807) (hx2 : (-9223372036854775808 : Int) ≤ x2 ∧ x2 ≤ 9223372036854775807) : XMl l yX12_over ws_mc_X12_over ({ frames := 0, cells := 0, slots := 0, locals := 0 } : Room) (dC, dI) (tyA cB cI cJ cZ cQ) (WM cI cJ cZ q) A [.long (jI x1), .long (jI x2)] (fun z u => A = u ∧ r_X12_over x1 x2 A z ∧ (-9223372036854775808 ≤ z ∧ z ≤ 9223372036854775807)) := by
  refine x_metl (cc := cX12_over) (maxL := 6) WM_adr (by decide +kernel) rfl (Nat.le_of_ble_eq_true rfl) (fun p e s m below meth c Q AS ls hx hb hml hown hts hK hDD hA0 hP hS hl RET => ?_)
  have hown : s.vm.findClass RX12 = some m.cls := hown
  have hl : lv_has ls 6 [(0, .long (jI x1)), (2, .long (jI x2))] := hl
  obtain ⟨H, hHe⟩ : ∃ H : Heap, H = s.heap := ⟨_, rfl⟩
  rw [← hHe] at hP
  have hS : va_S AS s.heap H [] := by rw [hHe]; exact hS
  suffices hgo : ∀ locs : List Loc, va_S AS s.heap H locs → W p l e (headSpec ws_mc_X12_over ({ frames := 0, cells := 0, slots := 0, locals := 0 } : Room)).room s m [.long (jI x1), .long (jI x2)].toArray below meth c H locs 0 0 Q (F0 m 0 ls []) by
    have := hgo [] hS
    rw [hHe] at this
    exact this
  clear hS hHe
  intro locs hS
  refine lv_lload_n hx hb dX12_over_0 rfl (lv_at hl 1 rfl) ?_
  refine lv_lconst (v := jI 0) hx hb dX12_over_1 (by decide +kernel) ?_
  refine x_lcmp hx hb dX12_over_2 (by omega) (by omega) (fun z1 hz1 hz1b hz1c => ?_)
  have gz1 := Hd.mk (And.intro hz1 (And.intro hz1b hz1c))
  refine lv_if_ne (tgt := 8) hx hb dX12_over_3 (by decide) (fun c2 => ?_) (fun c2 => ?_)
  · have c2 : ¬ z1 = 0 := mt (i_eq0 (by omega)).mpr c2
    refine lv_lload_n hx hb dX12_over_8 rfl (lv_at hl 0 rfl) ?_
    refine lv_lload_n hx hb dX12_over_9 rfl (lv_at hl 1 rfl) ?_
    refine lv_ldiv hx hb dX12_over_10 (by exact j_ne0 (by omega) (by omega)) ?_
    refine x_abslE (fun z3 gz3 hz3 => ?_)
    refine lv_lstore (lv' := [(4, .long (jI z3)), (0, .long (jI x1)), (2, .long (jI x2))]) hx hb dX12_over_11 hl (by decide) rfl (fun ls hl => ?_)
    refine lv_lload_n hx hb dX12_over_13 rfl (lv_at hl 1 rfl) ?_
    refine lv_lload_n hx hb dX12_over_14 rfl (lv_at hl 2 rfl) ?_
    refine lv_lrem hx hb dX12_over_15 (by exact j_ne0 (by omega) (by omega)) ?_
    refine x_abslE (fun z4 gz4 hz4 => ?_)
    refine lv_lconst (v := jI 0) hx hb dX12_over_16 (by decide +kernel) ?_
    refine x_lcmp hx hb dX12_over_17 (by omega) (by omega) (fun z5 hz5 hz5b hz5c => ?_)
    have gz5 := Hd.mk (And.intro hz5 (And.intro hz5b hz5c))
    refine lv_if_eq (tgt := 53) hx hb dX12_over_18 (by decide) (fun c6 => ?_) (fun c6 => ?_)
    · have c6 : z5 = 0 := (i_eq0 (by omega)).mp c6
      refine lv_lload hx hb dX12_over_53 (lv_at hl 0 rfl) ?_
      exact RET z3 _ _ _ _ _ ⟨rfl, (u_r_X12_over ⟨z1, gz1.out, (Or.inl ⟨c2, ⟨z3, gz3.out, ⟨z4, gz4.out, ⟨z5, gz5.out, (Or.inl ⟨c6, rfl⟩)⟩⟩⟩⟩)⟩), by omega⟩ hP hS dX12_over_55
    · have c6 : ¬ z5 = 0 := mt (i_eq0 (by omega)).mpr c6
      refine lv_lload_n hx hb dX12_over_21 rfl (lv_at hl 1 rfl) ?_
      refine lv_lconst (v := jI 0) hx hb dX12_over_22 (by decide +kernel) ?_
      refine x_lcmp hx hb dX12_over_23 (by omega) (by omega) (fun z7 hz7 hz7b hz7c => ?_)
      have gz7 := Hd.mk (And.intro hz7 (And.intro hz7b hz7c))
      have J32_9 : ∀ (z10 : Int) (H : Heap) (locs : List Loc) (ls : Array Slot), (0 ≤ z10 ∧ z10 ≤ 1) → ((z10 = 0 ∧ 0 ≤ z7) ∨ (z10 = 1 ∧ ¬ 0 ≤ z7)) → (∀ (z : Int), (d_X12_over_1 x2 z3 z z10) → r_X12_over x1 x2 A z) → va_P (dC, dI) vwCl (WM cI cJ cZ q A) H → va_S AS s.heap H locs → lv_has ls 6 [(4, .long (jI z3)), (0, .long (jI x1)), (2, .long (jI x2))] → W p l e (headSpec ws_mc_X12_over ({ frames := 0, cells := 0, slots := 0, locals := 0 } : Room)).room s m [.long (jI x1), .long (jI x2)].toArray below meth c H locs 0 0 Q (F0 m 32 ls [.int (iI z10)]) := by
        intro z10 H locs ls f12 f13 hk1 hP hS hl
        refine lv_lload_n hx hb dX12_over_32 rfl (lv_at hl 2 rfl) ?_
        refine lv_lconst (v := jI 0) hx hb dX12_over_33 (by decide +kernel) ?_
        refine x_lcmp hx hb dX12_over_34 (by omega) (by omega) (fun z14 hz14 hz14b hz14c => ?_)
        have gz14 := Hd.mk (And.intro hz14 (And.intro hz14b hz14c))
        have J43_16 : ∀ (z17 : Int) (H : Heap) (locs : List Loc) (ls : Array Slot), (0 ≤ z17 ∧ z17 ≤ 1) → ((z17 = 0 ∧ 0 ≤ z14) ∨ (z17 = 1 ∧ ¬ 0 ≤ z14)) → (∀ (z : Int), (d_X12_over_2 z3 z10 z z17) → r_X12_over x1 x2 A z) → va_P (dC, dI) vwCl (WM cI cJ cZ q A) H → va_S AS s.heap H locs → lv_has ls 6 [(4, .long (jI z3)), (0, .long (jI x1)), (2, .long (jI x2))] → W p l e (headSpec ws_mc_X12_over ({ frames := 0, cells := 0, slots := 0, locals := 0 } : Room)).room s m [.long (jI x1), .long (jI x2)].toArray below meth c H locs 0 0 Q (F0 m 43 ls [.int (iI z17), .int (iI z10)]) := by
          intro z17 H locs ls f19 f20 hk2 hP hS hl
          refine lv_icmp_eq (tgt := 53) hx hb dX12_over_43 (by decide) (fun c21 => ?_) (fun c21 => ?_)
          · have c21 : z10 = z17 := (i_eq (rb f12 (by decide) (by decide)) (rb f19 (by decide) (by decide))).mp c21
            refine lv_lload hx hb dX12_over_53 (lv_at hl 0 rfl) ?_
            exact RET z3 _ _ _ _ _ ⟨rfl, hk2 _ (u_d_X12_over_2 ⟨f19, (Or.inl ⟨c21, rfl⟩)⟩), by omega⟩ hP hS dX12_over_55
          · have c21 : ¬ z10 = z17 := mt (i_eq (rb f12 (by decide) (by decide)) (rb f19 (by decide) (by decide))).mpr c21
            refine lv_lload hx hb dX12_over_46 (lv_at hl 0 rfl) ?_
            refine lv_lconst (v := jI 1) hx hb dX12_over_48 (by decide +kernel) ?_
            refine lv_lsub hx hb dX12_over_49 ?_
            refine x_abslE (fun z22 gz22 hz22 => ?_)
            refine lv_goto (tgt := 55) hx hb dX12_over_50 (by decide) ?_
            exact RET z22 _ _ _ _ _ ⟨rfl, hk2 _ (u_d_X12_over_2 ⟨f19, (Or.inr ⟨c21, ⟨z22, gz22.out, rfl⟩⟩)⟩), by omega⟩ hP hS dX12_over_55
        refine lv_if_ge (tgt := 42) hx hb dX12_over_35 (by decide) (fun c15 => ?_) (fun c15 => ?_)
        · have c15 : 0 ≤ z14 := (i_0le (by omega)).mp c15
          refine lv_iconst (v := iI 0) hx hb dX12_over_42 (by decide +kernel) ?_
          exact J43_16 0 _ _ _ (by omega) (by omega) (fun zq hq => hk1 _ (u_d_X12_over_1 ⟨f12, ⟨z14, gz14.out, (Or.inl ⟨c15, hq⟩)⟩⟩)) hP hS (lv_sub hl [0, 1, 2] rfl)
        · have c15 : ¬ 0 ≤ z14 := mt (i_0le (by omega)).mpr c15
          refine lv_iconst (v := iI 1) hx hb dX12_over_38 (by decide +kernel) ?_
          refine lv_goto (tgt := 43) hx hb dX12_over_39 (by decide) ?_
          exact J43_16 1 _ _ _ (by omega) (by omega) (fun zq hq => hk1 _ (u_d_X12_over_1 ⟨f12, ⟨z14, gz14.out, (Or.inr ⟨c15, hq⟩)⟩⟩)) hP hS (lv_sub hl [0, 1, 2] rfl)
      refine lv_if_ge (tgt := 31) hx hb dX12_over_24 (by decide) (fun c8 => ?_) (fun c8 => ?_)
      · have c8 : 0 ≤ z7 := (i_0le (by omega)).mp c8
        refine lv_iconst (v := iI 0) hx hb dX12_over_31 (by decide +kernel) ?_
        exact J32_9 0 _ _ _ (by omega) (by omega) (fun zq hq => (u_r_X12_over ⟨z1, gz1.out, (Or.inl ⟨c2, ⟨z3, gz3.out, ⟨z4, gz4.out, ⟨z5, gz5.out, (Or.inr ⟨c6, ⟨z7, gz7.out, (Or.inl ⟨c8, hq⟩)⟩⟩)⟩⟩⟩⟩)⟩)) hP hS (lv_sub hl [0, 1, 2] rfl)
      · have c8 : ¬ 0 ≤ z7 := mt (i_0le (by omega)).mpr c8
        refine lv_iconst (v := iI 1) hx hb dX12_over_27 (by decide +kernel) ?_
        refine lv_goto (tgt := 32) hx hb dX12_over_28 (by decide) ?_
        exact J32_9 1 _ _ _ (by omega) (by omega) (fun zq hq => (u_r_X12_over ⟨z1, gz1.out, (Or.inl ⟨c2, ⟨z3, gz3.out, ⟨z4, gz4.out, ⟨z5, gz5.out, (Or.inr ⟨c6, ⟨z7, gz7.out, (Or.inr ⟨c8, hq⟩)⟩⟩)⟩⟩⟩⟩)⟩)) hP hS (lv_sub hl [0, 1, 2] rfl)
  · have c2 : z1 = 0 := (i_eq0 (by omega)).mp c2
    refine lv_lconst (v := jI 0) hx hb dX12_over_6 (by decide +kernel) ?_
    exact RET 0 _ _ _ _ _ ⟨rfl, (u_r_X12_over ⟨z1, gz1.out, (Or.inr ⟨c2, rfl⟩)⟩), by omega⟩ hP hS dX12_over_7

abbrev tr_r_X12_made (x1 : Int) (x2 : Int) (x3 : Int) (A : St) (z : Int) : Prop := (((x1 < 10 ∨ 20 < x1) ∧ (∃ z2 : Int, z2 = pAdd x2 x3 ∧ (∃ z3 : Int, ((-1 ≤ z3 ∧ z3 ≤ 1) ∧ (z3 = 0 ↔ z2 = 0) ∧ (z3 < 0 ↔ z2 < 0)) ∧ (((z3 ≤ 0) ∧ (z = 0)) ∨ ((¬ z3 ≤ 0) ∧ (z = 1)))))) ∨ (x1 = 10 ∧ (∃ z5 : Int, z5 = pAdd x2 x3 ∧ (∃ z6 : Int, q_X12_bounded z5 A z6 ∧ (z = z6)))) ∨ (x1 = 11 ∧ (∃ z9 : Int, z9 = pSub x2 x3 ∧ (∃ z10 : Int, q_X12_bounded z9 A z10 ∧ (z = z10)))) ∨ (x1 = 12 ∧ (∃ z13 : Int, z13 = pMul x2 x3 ∧ (∃ z14 : Int, q_X12_bounded z13 A z14 ∧ (z = z14)))) ∨ (x1 = 13 ∧ (∃ z17 : Int, q_X12_over x2 x3 A z17 ∧ (z = z17))) ∨ (x1 = 14 ∧ (∃ z20 : Int, ((-1 ≤ z20 ∧ z20 ≤ 1) ∧ (z20 = 0 ↔ x3 = 0) ∧ (z20 < 0 ↔ x3 < 0)) ∧ (((¬ z20 = 0) ∧ (∃ z22 : Int, q_X12_over x2 x3 A z22 ∧ (∃ z25 : Int, z25 = pMul x3 z22 ∧ (∃ z26 : Int, z26 = pSub x2 z25 ∧ (z = z26))))) ∨ ((z20 = 0) ∧ (z = 0))))) ∨ (x1 = 15 ∧ (∃ z27 : Int, ((-1 ≤ z27 ∧ z27 ≤ 1) ∧ (z27 = 0 ↔ x2 = x3) ∧ (z27 < 0 ↔ x2 < x3)) ∧ (((0 ≤ z27) ∧ (z = x3)) ∨ ((¬ 0 ≤ z27) ∧ (z = x2))))) ∨ (x1 = 16 ∧ (∃ z29 : Int, ((-1 ≤ z29 ∧ z29 ≤ 1) ∧ (z29 = 0 ↔ x2 = x3) ∧ (z29 < 0 ↔ x2 < x3)) ∧ (((z29 ≤ 0) ∧ (z = x3)) ∨ ((¬ z29 ≤ 0) ∧ (z = x2))))) ∨ (x1 = 17 ∧ (∃ z31 : Int, ((-1 ≤ z31 ∧ z31 ≤ 1) ∧ (z31 = 0 ↔ x2 = x3) ∧ (z31 < 0 ↔ x2 < x3)) ∧ (((0 ≤ z31) ∧ (z = 0)) ∨ ((¬ 0 ≤ z31) ∧ (z = 1))))) ∨ (x1 = 18 ∧ (∃ z33 : Int, ((-1 ≤ z33 ∧ z33 ≤ 1) ∧ (z33 = 0 ↔ x2 = x3) ∧ (z33 < 0 ↔ x2 < x3)) ∧ (((z33 ≤ 0) ∧ (z = 0)) ∨ ((¬ z33 ≤ 0) ∧ (z = 1))))) ∨ (x1 = 19 ∧ (∃ z35 : Int, ((-1 ≤ z35 ∧ z35 ≤ 1) ∧ (z35 = 0 ↔ x2 = x3) ∧ (z35 < 0 ↔ x2 < x3)) ∧ (((¬ z35 = 0) ∧ (z = 0)) ∨ ((z35 = 0) ∧ (z = 1))))) ∨ (x1 = 20 ∧ (∃ z37 : Int, z37 = pMul x2 x3 ∧ (z = z37))))
def r_X12_made (x1 : Int) (x2 : Int) (x3 : Int) (A : St) (z : Int) : Prop := tr_r_X12_made x1 x2 x3 A z
theorem u_r_X12_made {x1 : Int} {x2 : Int} {x3 : Int} {A : St} {z : Int} (h : tr_r_X12_made x1 x2 x3 A z) : r_X12_made x1 x2 x3 A z := h
def q_X12_made (x1 : Int) (x2 : Int) (x3 : Int) (A : St) (z : Int) : Prop := r_X12_made x1 x2 x3 A z ∧ (-9223372036854775808 ≤ z ∧ z ≤ 9223372036854775807)
def ws_mc_X12_made : List Cond := .code yX12_made cX12_made 5 (some .long) :: WX
set_option maxHeartbeats 4000000 in
set_option maxRecDepth 100000 in
theorem mc_X12_made (l : Launch) (dC : Nat → ClassId) (dI : Nat → Nat → Nat) (cB cI cJ cZ cQ : ClassId) (q : Nat → Nat) (A : St) (x1 x2 x3 : Int) (hI : IM A) (hx1 : (-2147483648 : Int) ≤ x1 ∧ x1 ≤ 2147483647) (hx2 : (-9223372036854775808 : Int) ≤ x2 ∧ x2 ≤ 9223372036854775807) (hx3 : (-9223372036854775808 : Int) ≤ x3 ∧ x3 ≤ 9223372036854775807) : XMl l yX12_made ws_mc_X12_made ({ frames := 1, cells := 0, slots := 0, locals := 25 } : Room) (dC, dI) (tyA cB cI cJ cZ cQ) (WM cI cJ cZ q) A [.int (iI x1), .long (jI x2), .long (jI x3)] (fun z u => A = u ∧ r_X12_made x1 x2 x3 A z ∧ (-9223372036854775808 ≤ z ∧ z ≤ 9223372036854775807)) := by
  refine x_metl (cc := cX12_made) (maxL := 5) WM_adr (by decide +kernel) rfl (Nat.le_of_ble_eq_true rfl) (fun p e s m below meth c Q AS ls hx hb hml hown hts hK hDD hA0 hP hS hl RET => ?_)
  have hown : s.vm.findClass RX12 = some m.cls := hown
  have hl : lv_has ls 5 [(0, .int (iI x1)), (1, .long (jI x2)), (3, .long (jI x3))] := hl
  obtain ⟨H, hHe⟩ : ∃ H : Heap, H = s.heap := ⟨_, rfl⟩
  rw [← hHe] at hP
  have hS : va_S AS s.heap H [] := by rw [hHe]; exact hS
  suffices hgo : ∀ locs : List Loc, va_S AS s.heap H locs → W p l e (headSpec ws_mc_X12_made ({ frames := 1, cells := 0, slots := 0, locals := 25 } : Room)).room s m [.int (iI x1), .long (jI x2), .long (jI x3)].toArray below meth c H locs 0 0 Q (F0 m 0 ls []) by
    have := hgo [] hS
    rw [hHe] at this
    exact this
  clear hS hHe
  intro locs hS
  refine lv_iload_n hx hb dX12_made_0 rfl (lv_at hl 0 rfl) ?_
  rcases (show (x1 < 10 ∨ 20 < x1) ∨ x1 = 10 ∨ x1 = 11 ∨ x1 = 12 ∨ x1 = 13 ∨ x1 = 14 ∨ x1 = 15 ∨ x1 = 16 ∨ x1 = 17 ∨ x1 = 18 ∨ x1 = 19 ∨ x1 = 20 by omega) with c1 | c1 | c1 | c1 | c1 | c1 | c1 | c1 | c1 | c1 | c1 | c1
  · refine lv_tableOut (tgt := 171) hx hb dX12_made_1 (by rw [iI_toInt hx1]; exact c1) (by decide) ?_
    refine lv_lload_n hx hb dX12_made_171 rfl (lv_at hl 1 rfl) ?_
    refine lv_lload_n hx hb dX12_made_172 rfl (lv_at hl 2 rfl) ?_
    refine lv_ladd hx hb dX12_made_173 ?_
    refine x_abslE (fun z2 gz2 hz2 => ?_)
    refine lv_lconst (v := jI 0) hx hb dX12_made_174 (by decide +kernel) ?_
    refine x_lcmp hx hb dX12_made_175 (by omega) (by omega) (fun z3 hz3 hz3b hz3c => ?_)
    have gz3 := Hd.mk (And.intro hz3 (And.intro hz3b hz3c))
    refine lv_if_le (tgt := 183) hx hb dX12_made_176 (by decide) (fun c4 => ?_) (fun c4 => ?_)
    · have c4 : z3 ≤ 0 := (i_le0 (by omega)).mp c4
      refine lv_lconst (v := jI 0) hx hb dX12_made_183 (by decide +kernel) ?_
      exact RET 0 _ _ _ _ _ ⟨rfl, (u_r_X12_made (Or.inl ⟨c1, ⟨z2, gz2.out, ⟨z3, gz3.out, (Or.inl ⟨c4, rfl⟩)⟩⟩⟩)), by omega⟩ hP hS dX12_made_184
    · have c4 : ¬ z3 ≤ 0 := mt (i_le0 (by omega)).mpr c4
      refine lv_lconst (v := jI 1) hx hb dX12_made_179 (by decide +kernel) ?_
      refine lv_goto (tgt := 184) hx hb dX12_made_180 (by decide) ?_
      exact RET 1 _ _ _ _ _ ⟨rfl, (u_r_X12_made (Or.inl ⟨c1, ⟨z2, gz2.out, ⟨z3, gz3.out, (Or.inr ⟨c4, rfl⟩)⟩⟩⟩)), by omega⟩ hP hS dX12_made_184
  · refine tp_i (y := iI 10) (congrArg iI c1) ?_
    refine lv_tableIn (off := 59) (tgt := 60) hx hb dX12_made_1 (by decide +kernel) (by decide +kernel) (by decide +kernel) (by decide) ?_
    refine lv_lload_n hx hb dX12_made_60 rfl (lv_at hl 1 rfl) ?_
    refine lv_lload_n hx hb dX12_made_61 rfl (lv_at hl 2 rfl) ?_
    refine lv_ladd hx hb dX12_made_62 ?_
    refine x_abslE (fun z5 gz5 hz5 => ?_)
    refine x_callSl (As := [.long (jI z5)]) (rest := []) ⟨hx, hb, hml, hown, hts⟩ (mc_X12_bounded l dC dI cB cI cJ cZ cQ q _ z5 hI (by omega)) (va_cwS 1 hts (goodS (wl_in_4 _ (List.mem_of_getElem? (i := 28) rfl)) (wl_in_4 _ (List.mem_of_getElem? (i := 29) rfl)) (wl_in_0 _ (List.mem_of_getElem? (i := 8) rfl)) (wl_in_4 _ (List.mem_of_getElem? (i := 23) rfl))) rfl rfl rfl (by decide +kernel) ⟨Nat.le_of_ble_eq_true rfl, Nat.le_of_ble_eq_true rfl⟩) hK hDD hA0 hP hS rfl hl.1 (Nat.le_of_ble_eq_true rfl) dX12_made_63 (fun z6 A7 H locs hw8 hP hS => ?_)
    obtain ⟨rfl, hw8⟩ := hw8
    have ghw8 : q_X12_bounded z5 A z6 := hw8
    have hw8 := hw8.2
    exact RET z6 _ _ _ _ _ ⟨rfl, (u_r_X12_made (Or.inr (Or.inl ⟨c1, ⟨z5, gz5.out, ⟨z6, ghw8, rfl⟩⟩⟩))), by omega⟩ hP hS dX12_made_66
  · refine tp_i (y := iI 11) (congrArg iI c1) ?_
    refine lv_tableIn (off := 66) (tgt := 67) hx hb dX12_made_1 (by decide +kernel) (by decide +kernel) (by decide +kernel) (by decide) ?_
    refine lv_lload_n hx hb dX12_made_67 rfl (lv_at hl 1 rfl) ?_
    refine lv_lload_n hx hb dX12_made_68 rfl (lv_at hl 2 rfl) ?_
    refine lv_lsub hx hb dX12_made_69 ?_
    refine x_abslE (fun z9 gz9 hz9 => ?_)
    refine x_callSl (As := [.long (jI z9)]) (rest := []) ⟨hx, hb, hml, hown, hts⟩ (mc_X12_bounded l dC dI cB cI cJ cZ cQ q _ z9 hI (by omega)) (va_cwS 1 hts (goodS (wl_in_4 _ (List.mem_of_getElem? (i := 28) rfl)) (wl_in_4 _ (List.mem_of_getElem? (i := 29) rfl)) (wl_in_0 _ (List.mem_of_getElem? (i := 8) rfl)) (wl_in_4 _ (List.mem_of_getElem? (i := 23) rfl))) rfl rfl rfl (by decide +kernel) ⟨Nat.le_of_ble_eq_true rfl, Nat.le_of_ble_eq_true rfl⟩) hK hDD hA0 hP hS rfl hl.1 (Nat.le_of_ble_eq_true rfl) dX12_made_70 (fun z10 A11 H locs hw12 hP hS => ?_)
    obtain ⟨rfl, hw12⟩ := hw12
    have ghw12 : q_X12_bounded z9 A z10 := hw12
    have hw12 := hw12.2
    exact RET z10 _ _ _ _ _ ⟨rfl, (u_r_X12_made (Or.inr (Or.inr (Or.inl ⟨c1, ⟨z9, gz9.out, ⟨z10, ghw12, rfl⟩⟩⟩)))), by omega⟩ hP hS dX12_made_73
  · refine tp_i (y := iI 12) (congrArg iI c1) ?_
    refine lv_tableIn (off := 73) (tgt := 74) hx hb dX12_made_1 (by decide +kernel) (by decide +kernel) (by decide +kernel) (by decide) ?_
    refine lv_lload_n hx hb dX12_made_74 rfl (lv_at hl 1 rfl) ?_
    refine lv_lload_n hx hb dX12_made_75 rfl (lv_at hl 2 rfl) ?_
    refine lv_lmul hx hb dX12_made_76 ?_
    refine x_abslE (fun z13 gz13 hz13 => ?_)
    refine x_callSl (As := [.long (jI z13)]) (rest := []) ⟨hx, hb, hml, hown, hts⟩ (mc_X12_bounded l dC dI cB cI cJ cZ cQ q _ z13 hI (by omega)) (va_cwS 1 hts (goodS (wl_in_4 _ (List.mem_of_getElem? (i := 28) rfl)) (wl_in_4 _ (List.mem_of_getElem? (i := 29) rfl)) (wl_in_0 _ (List.mem_of_getElem? (i := 8) rfl)) (wl_in_4 _ (List.mem_of_getElem? (i := 23) rfl))) rfl rfl rfl (by decide +kernel) ⟨Nat.le_of_ble_eq_true rfl, Nat.le_of_ble_eq_true rfl⟩) hK hDD hA0 hP hS rfl hl.1 (Nat.le_of_ble_eq_true rfl) dX12_made_77 (fun z14 A15 H locs hw16 hP hS => ?_)
    obtain ⟨rfl, hw16⟩ := hw16
    have ghw16 : q_X12_bounded z13 A z14 := hw16
    have hw16 := hw16.2
    exact RET z14 _ _ _ _ _ ⟨rfl, (u_r_X12_made (Or.inr (Or.inr (Or.inr (Or.inl ⟨c1, ⟨z13, gz13.out, ⟨z14, ghw16, rfl⟩⟩⟩))))), by omega⟩ hP hS dX12_made_80
  · refine tp_i (y := iI 13) (congrArg iI c1) ?_
    refine lv_tableIn (off := 80) (tgt := 81) hx hb dX12_made_1 (by decide +kernel) (by decide +kernel) (by decide +kernel) (by decide) ?_
    refine lv_lload_n hx hb dX12_made_81 rfl (lv_at hl 1 rfl) ?_
    refine lv_lload_n hx hb dX12_made_82 rfl (lv_at hl 2 rfl) ?_
    refine x_callSl (As := [.long (jI x2), .long (jI x3)]) (rest := []) ⟨hx, hb, hml, hown, hts⟩ (mc_X12_over l dC dI cB cI cJ cZ cQ q _ x2 x3 hI hx2 hx3) (va_cwS 2 hts (goodS (wl_in_4 _ (List.mem_of_getElem? (i := 30) rfl)) (wl_in_4 _ (List.mem_of_getElem? (i := 31) rfl)) (wl_in_0 _ (List.mem_of_getElem? (i := 8) rfl)) (wl_in_4 _ (List.mem_of_getElem? (i := 26) rfl))) rfl rfl rfl (by decide +kernel) ⟨Nat.le_of_ble_eq_true rfl, Nat.le_of_ble_eq_true rfl⟩) hK hDD hA0 hP hS rfl hl.1 (Nat.le_of_ble_eq_true rfl) dX12_made_83 (fun z17 A18 H locs hw19 hP hS => ?_)
    obtain ⟨rfl, hw19⟩ := hw19
    have ghw19 : q_X12_over x2 x3 A z17 := hw19
    have hw19 := hw19.2
    exact RET z17 _ _ _ _ _ ⟨rfl, (u_r_X12_made (Or.inr (Or.inr (Or.inr (Or.inr (Or.inl ⟨c1, ⟨z17, ghw19, rfl⟩⟩)))))), by omega⟩ hP hS dX12_made_86
  · refine tp_i (y := iI 14) (congrArg iI c1) ?_
    refine lv_tableIn (off := 86) (tgt := 87) hx hb dX12_made_1 (by decide +kernel) (by decide +kernel) (by decide +kernel) (by decide) ?_
    refine lv_lload_n hx hb dX12_made_87 rfl (lv_at hl 2 rfl) ?_
    refine lv_lconst (v := jI 0) hx hb dX12_made_88 (by decide +kernel) ?_
    refine x_lcmp hx hb dX12_made_89 (by omega) (by omega) (fun z20 hz20 hz20b hz20c => ?_)
    have gz20 := Hd.mk (And.intro hz20 (And.intro hz20b hz20c))
    refine lv_if_ne (tgt := 97) hx hb dX12_made_90 (by decide) (fun c21 => ?_) (fun c21 => ?_)
    · have c21 : ¬ z20 = 0 := mt (i_eq0 (by omega)).mpr c21
      refine lv_lload_n hx hb dX12_made_97 rfl (lv_at hl 1 rfl) ?_
      refine lv_lload_n hx hb dX12_made_98 rfl (lv_at hl 2 rfl) ?_
      refine lv_lload_n hx hb dX12_made_99 rfl (lv_at hl 1 rfl) ?_
      refine lv_lload_n hx hb dX12_made_100 rfl (lv_at hl 2 rfl) ?_
      refine x_callSl (As := [.long (jI x2), .long (jI x3)]) (rest := [.long (jI x3), .long (jI x2)]) ⟨hx, hb, hml, hown, hts⟩ (mc_X12_over l dC dI cB cI cJ cZ cQ q _ x2 x3 hI hx2 hx3) (va_cwS 2 hts (goodS (wl_in_4 _ (List.mem_of_getElem? (i := 30) rfl)) (wl_in_4 _ (List.mem_of_getElem? (i := 31) rfl)) (wl_in_0 _ (List.mem_of_getElem? (i := 8) rfl)) (wl_in_4 _ (List.mem_of_getElem? (i := 26) rfl))) rfl rfl rfl (by decide +kernel) ⟨Nat.le_of_ble_eq_true rfl, Nat.le_of_ble_eq_true rfl⟩) hK hDD hA0 hP hS rfl hl.1 (Nat.le_of_ble_eq_true rfl) dX12_made_101 (fun z22 A23 H locs hw24 hP hS => ?_)
      obtain ⟨rfl, hw24⟩ := hw24
      have ghw24 : q_X12_over x2 x3 A z22 := hw24
      have hw24 := hw24.2
      refine lv_lmul hx hb dX12_made_104 ?_
      refine x_abslE (fun z25 gz25 hz25 => ?_)
      refine lv_lsub hx hb dX12_made_105 ?_
      refine x_abslE (fun z26 gz26 hz26 => ?_)
      exact RET z26 _ _ _ _ _ ⟨rfl, (u_r_X12_made (Or.inr (Or.inr (Or.inr (Or.inr (Or.inr (Or.inl ⟨c1, ⟨z20, gz20.out, (Or.inl ⟨c21, ⟨z22, ghw24, ⟨z25, gz25.out, ⟨z26, gz26.out, rfl⟩⟩⟩⟩)⟩⟩))))))), by omega⟩ hP hS dX12_made_106
    · have c21 : z20 = 0 := (i_eq0 (by omega)).mp c21
      refine lv_lconst (v := jI 0) hx hb dX12_made_93 (by decide +kernel) ?_
      refine lv_goto (tgt := 106) hx hb dX12_made_94 (by decide) ?_
      exact RET 0 _ _ _ _ _ ⟨rfl, (u_r_X12_made (Or.inr (Or.inr (Or.inr (Or.inr (Or.inr (Or.inl ⟨c1, ⟨z20, gz20.out, (Or.inr ⟨c21, rfl⟩)⟩⟩))))))), by omega⟩ hP hS dX12_made_106
  · refine tp_i (y := iI 15) (congrArg iI c1) ?_
    refine lv_tableIn (off := 106) (tgt := 107) hx hb dX12_made_1 (by decide +kernel) (by decide +kernel) (by decide +kernel) (by decide) ?_
    refine lv_lload_n hx hb dX12_made_107 rfl (lv_at hl 1 rfl) ?_
    refine lv_lload_n hx hb dX12_made_108 rfl (lv_at hl 2 rfl) ?_
    refine x_lcmp hx hb dX12_made_109 (by omega) (by omega) (fun z27 hz27 hz27b hz27c => ?_)
    have gz27 := Hd.mk (And.intro hz27 (And.intro hz27b hz27c))
    refine lv_if_ge (tgt := 117) hx hb dX12_made_110 (by decide) (fun c28 => ?_) (fun c28 => ?_)
    · have c28 : 0 ≤ z27 := (i_0le (by omega)).mp c28
      refine lv_lload_n hx hb dX12_made_117 rfl (lv_at hl 2 rfl) ?_
      exact RET x3 _ _ _ _ _ ⟨rfl, (u_r_X12_made (Or.inr (Or.inr (Or.inr (Or.inr (Or.inr (Or.inr (Or.inl ⟨c1, ⟨z27, gz27.out, (Or.inl ⟨c28, rfl⟩)⟩⟩)))))))), by omega⟩ hP hS dX12_made_118
    · have c28 : ¬ 0 ≤ z27 := mt (i_0le (by omega)).mpr c28
      refine lv_lload_n hx hb dX12_made_113 rfl (lv_at hl 1 rfl) ?_
      refine lv_goto (tgt := 118) hx hb dX12_made_114 (by decide) ?_
      exact RET x2 _ _ _ _ _ ⟨rfl, (u_r_X12_made (Or.inr (Or.inr (Or.inr (Or.inr (Or.inr (Or.inr (Or.inl ⟨c1, ⟨z27, gz27.out, (Or.inr ⟨c28, rfl⟩)⟩⟩)))))))), by omega⟩ hP hS dX12_made_118
  · refine tp_i (y := iI 16) (congrArg iI c1) ?_
    refine lv_tableIn (off := 118) (tgt := 119) hx hb dX12_made_1 (by decide +kernel) (by decide +kernel) (by decide +kernel) (by decide) ?_
    refine lv_lload_n hx hb dX12_made_119 rfl (lv_at hl 1 rfl) ?_
    refine lv_lload_n hx hb dX12_made_120 rfl (lv_at hl 2 rfl) ?_
    refine x_lcmp hx hb dX12_made_121 (by omega) (by omega) (fun z29 hz29 hz29b hz29c => ?_)
    have gz29 := Hd.mk (And.intro hz29 (And.intro hz29b hz29c))
    refine lv_if_le (tgt := 129) hx hb dX12_made_122 (by decide) (fun c30 => ?_) (fun c30 => ?_)
    · have c30 : z29 ≤ 0 := (i_le0 (by omega)).mp c30
      refine lv_lload_n hx hb dX12_made_129 rfl (lv_at hl 2 rfl) ?_
      exact RET x3 _ _ _ _ _ ⟨rfl, (u_r_X12_made (Or.inr (Or.inr (Or.inr (Or.inr (Or.inr (Or.inr (Or.inr (Or.inl ⟨c1, ⟨z29, gz29.out, (Or.inl ⟨c30, rfl⟩)⟩⟩))))))))), by omega⟩ hP hS dX12_made_130
    · have c30 : ¬ z29 ≤ 0 := mt (i_le0 (by omega)).mpr c30
      refine lv_lload_n hx hb dX12_made_125 rfl (lv_at hl 1 rfl) ?_
      refine lv_goto (tgt := 130) hx hb dX12_made_126 (by decide) ?_
      exact RET x2 _ _ _ _ _ ⟨rfl, (u_r_X12_made (Or.inr (Or.inr (Or.inr (Or.inr (Or.inr (Or.inr (Or.inr (Or.inl ⟨c1, ⟨z29, gz29.out, (Or.inr ⟨c30, rfl⟩)⟩⟩))))))))), by omega⟩ hP hS dX12_made_130
  · refine tp_i (y := iI 17) (congrArg iI c1) ?_
    refine lv_tableIn (off := 130) (tgt := 131) hx hb dX12_made_1 (by decide +kernel) (by decide +kernel) (by decide +kernel) (by decide) ?_
    refine lv_lload_n hx hb dX12_made_131 rfl (lv_at hl 1 rfl) ?_
    refine lv_lload_n hx hb dX12_made_132 rfl (lv_at hl 2 rfl) ?_
    refine x_lcmp hx hb dX12_made_133 (by omega) (by omega) (fun z31 hz31 hz31b hz31c => ?_)
    have gz31 := Hd.mk (And.intro hz31 (And.intro hz31b hz31c))
    refine lv_if_ge (tgt := 141) hx hb dX12_made_134 (by decide) (fun c32 => ?_) (fun c32 => ?_)
    · have c32 : 0 ≤ z31 := (i_0le (by omega)).mp c32
      refine lv_lconst (v := jI 0) hx hb dX12_made_141 (by decide +kernel) ?_
      exact RET 0 _ _ _ _ _ ⟨rfl, (u_r_X12_made (Or.inr (Or.inr (Or.inr (Or.inr (Or.inr (Or.inr (Or.inr (Or.inr (Or.inl ⟨c1, ⟨z31, gz31.out, (Or.inl ⟨c32, rfl⟩)⟩⟩)))))))))), by omega⟩ hP hS dX12_made_142
    · have c32 : ¬ 0 ≤ z31 := mt (i_0le (by omega)).mpr c32
      refine lv_lconst (v := jI 1) hx hb dX12_made_137 (by decide +kernel) ?_
      refine lv_goto (tgt := 142) hx hb dX12_made_138 (by decide) ?_
      exact RET 1 _ _ _ _ _ ⟨rfl, (u_r_X12_made (Or.inr (Or.inr (Or.inr (Or.inr (Or.inr (Or.inr (Or.inr (Or.inr (Or.inl ⟨c1, ⟨z31, gz31.out, (Or.inr ⟨c32, rfl⟩)⟩⟩)))))))))), by omega⟩ hP hS dX12_made_142
  · refine tp_i (y := iI 18) (congrArg iI c1) ?_
    refine lv_tableIn (off := 142) (tgt := 143) hx hb dX12_made_1 (by decide +kernel) (by decide +kernel) (by decide +kernel) (by decide) ?_
    refine lv_lload_n hx hb dX12_made_143 rfl (lv_at hl 1 rfl) ?_
    refine lv_lload_n hx hb dX12_made_144 rfl (lv_at hl 2 rfl) ?_
    refine x_lcmp hx hb dX12_made_145 (by omega) (by omega) (fun z33 hz33 hz33b hz33c => ?_)
    have gz33 := Hd.mk (And.intro hz33 (And.intro hz33b hz33c))
    refine lv_if_le (tgt := 153) hx hb dX12_made_146 (by decide) (fun c34 => ?_) (fun c34 => ?_)
    · have c34 : z33 ≤ 0 := (i_le0 (by omega)).mp c34
      refine lv_lconst (v := jI 0) hx hb dX12_made_153 (by decide +kernel) ?_
      exact RET 0 _ _ _ _ _ ⟨rfl, (u_r_X12_made (Or.inr (Or.inr (Or.inr (Or.inr (Or.inr (Or.inr (Or.inr (Or.inr (Or.inr (Or.inl ⟨c1, ⟨z33, gz33.out, (Or.inl ⟨c34, rfl⟩)⟩⟩))))))))))), by omega⟩ hP hS dX12_made_154
    · have c34 : ¬ z33 ≤ 0 := mt (i_le0 (by omega)).mpr c34
      refine lv_lconst (v := jI 1) hx hb dX12_made_149 (by decide +kernel) ?_
      refine lv_goto (tgt := 154) hx hb dX12_made_150 (by decide) ?_
      exact RET 1 _ _ _ _ _ ⟨rfl, (u_r_X12_made (Or.inr (Or.inr (Or.inr (Or.inr (Or.inr (Or.inr (Or.inr (Or.inr (Or.inr (Or.inl ⟨c1, ⟨z33, gz33.out, (Or.inr ⟨c34, rfl⟩)⟩⟩))))))))))), by omega⟩ hP hS dX12_made_154
  · refine tp_i (y := iI 19) (congrArg iI c1) ?_
    refine lv_tableIn (off := 154) (tgt := 155) hx hb dX12_made_1 (by decide +kernel) (by decide +kernel) (by decide +kernel) (by decide) ?_
    refine lv_lload_n hx hb dX12_made_155 rfl (lv_at hl 1 rfl) ?_
    refine lv_lload_n hx hb dX12_made_156 rfl (lv_at hl 2 rfl) ?_
    refine x_lcmp hx hb dX12_made_157 (by omega) (by omega) (fun z35 hz35 hz35b hz35c => ?_)
    have gz35 := Hd.mk (And.intro hz35 (And.intro hz35b hz35c))
    refine lv_if_ne (tgt := 165) hx hb dX12_made_158 (by decide) (fun c36 => ?_) (fun c36 => ?_)
    · have c36 : ¬ z35 = 0 := mt (i_eq0 (by omega)).mpr c36
      refine lv_lconst (v := jI 0) hx hb dX12_made_165 (by decide +kernel) ?_
      exact RET 0 _ _ _ _ _ ⟨rfl, (u_r_X12_made (Or.inr (Or.inr (Or.inr (Or.inr (Or.inr (Or.inr (Or.inr (Or.inr (Or.inr (Or.inr (Or.inl ⟨c1, ⟨z35, gz35.out, (Or.inl ⟨c36, rfl⟩)⟩⟩)))))))))))), by omega⟩ hP hS dX12_made_166
    · have c36 : z35 = 0 := (i_eq0 (by omega)).mp c36
      refine lv_lconst (v := jI 1) hx hb dX12_made_161 (by decide +kernel) ?_
      refine lv_goto (tgt := 166) hx hb dX12_made_162 (by decide) ?_
      exact RET 1 _ _ _ _ _ ⟨rfl, (u_r_X12_made (Or.inr (Or.inr (Or.inr (Or.inr (Or.inr (Or.inr (Or.inr (Or.inr (Or.inr (Or.inr (Or.inl ⟨c1, ⟨z35, gz35.out, (Or.inr ⟨c36, rfl⟩)⟩⟩)))))))))))), by omega⟩ hP hS dX12_made_166
  · refine tp_i (y := iI 20) (congrArg iI c1) ?_
    refine lv_tableIn (off := 166) (tgt := 167) hx hb dX12_made_1 (by decide +kernel) (by decide +kernel) (by decide +kernel) (by decide) ?_
    refine lv_lload_n hx hb dX12_made_167 rfl (lv_at hl 1 rfl) ?_
    refine lv_lload_n hx hb dX12_made_168 rfl (lv_at hl 2 rfl) ?_
    refine lv_lmul hx hb dX12_made_169 ?_
    refine x_abslE (fun z37 gz37 hz37 => ?_)
    exact RET z37 _ _ _ _ _ ⟨rfl, (u_r_X12_made (Or.inr (Or.inr (Or.inr (Or.inr (Or.inr (Or.inr (Or.inr (Or.inr (Or.inr (Or.inr (Or.inr ⟨c1, ⟨z37, gz37.out, rfl⟩⟩)))))))))))), by omega⟩ hP hS dX12_made_170
