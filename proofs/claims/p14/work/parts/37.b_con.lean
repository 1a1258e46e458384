abbrev tr_r_X12_writes (x1 : Int) (A : St) (u : St) : Prop := (∃ z1 : Int, z1 = oAnd x1 255 ∧ (∃ A2 : St, A2 = (stA (stA A 57 ((A 0 84)).toNat z1) 0 84 ((A 0 84) + 1)) ∧ (u = A2)))
def r_X12_writes (x1 : Int) (A : St) (u : St) : Prop := tr_r_X12_writes x1 A u
theorem u_r_X12_writes {x1 : Int} {A : St} {u : St} (h : tr_r_X12_writes x1 A u) : r_X12_writes x1 A u := h
def q_X12_writes (x1 : Int) (A : St) (u : St) : Prop := r_X12_writes x1 A u ∧ IM u ∧ fr [57] [84] A u ∧ (u 0 84 = A 0 84 + 1)
def ws_mc_X12_writes : List Cond := .code yX12_writes cX12_writes 2 none :: WX
set_option maxHeartbeats 4000000 in
set_option maxRecDepth 100000 in
theorem mc_X12_writes (l : Launch) (dC : Nat → ClassId) (dI : Nat → Nat → Nat) (cB cI cJ cZ cQ : ClassId) (q : Nat → Nat) (A : St) (x1 : Int) (hI : IM A) (hx1 : (-2147483648 : Int) ≤ x1 ∧ x1 ≤ 2147483647) (hp0 : A 0 84 < 48) : XMv l yX12_writes ws_mc_X12_writes ({ frames := 0, cells := 0, slots := 0, locals := 0 } : Room) (dC, dI) (tyA cB cI cJ cZ cQ) (WM cI cJ cZ q) A [.ref (q 0), .int (iI x1)] (fun u => r_X12_writes x1 A u ∧ IM u ∧ fr [57] [84] A u ∧ (u 0 84 = A 0 84 + 1)) := by
  refine x_metv (cc := cX12_writes) (maxL := 2) WM_adr (by decide +kernel) rfl (Nat.le_of_ble_eq_true rfl) (fun p e s m below meth c Q AS ls hx hb hml hown hts hK hDD hA0 hP hS hl RET => ?_)
  have hown : s.vm.findClass RX12 = some m.cls := hown
  have hl : lv_has ls 2 [(0, .ref (q 0)), (1, .int (iI x1))] := hl
  have hiX12 : ∀ w ∈ u_ws RX12 TX12 85, w ∈ ws_mc_X12_writes := fun w h => List.mem_cons_of_mem _ (wx_lay w h)
  obtain ⟨H, hHe⟩ : ∃ H : Heap, H = s.heap := ⟨_, rfl⟩
  rw [← hHe] at hP
  have hS : va_S AS s.heap H [] := by rw [hHe]; exact hS
  suffices hgo : ∀ locs : List Loc, va_S AS s.heap H locs → W p l e (headSpec ws_mc_X12_writes ({ frames := 0, cells := 0, slots := 0, locals := 0 } : Room)).room s m [.ref (q 0), .int (iI x1)].toArray below meth c H locs 0 0 Q (F0 m 0 ls []) by
    have := hgo [] hS
    rw [hHe] at this
    exact this
  clear hS hHe
  intro locs hS
  refine lv_aload_n hx hb dX12_writes_0 rfl (lv_at hl 0 rfl) ?_
  refine va_get (D := (dC, dI)) (ci := 12) (v := .ref (q 57)) (C := RX12) (T := TX12) (N := 85) hx hb hts hiX12 hown hK hP 0 wm0 rfl 83 (by decide) (hts _ (List.mem_cons_of_mem _ (wl_in_8 _ (List.mem_of_getElem? (i := 37) rfl)))) (fun _ h9 => h9) rfl dX12_writes_1 ?_
  refine lv_aload_n hx hb dX12_writes_4 rfl (lv_at hl 0 rfl) ?_
  refine va_get (D := (dC, dI)) (ci := 12) (v := .int (iI (A 0 84))) (C := RX12) (T := TX12) (N := 85) hx hb hts hiX12 hown hK hP 0 wm0 rfl 84 (by decide) (hts _ (List.mem_cons_of_mem _ (wl_in_8 _ (List.mem_of_getElem? (i := 38) rfl)))) (fun _ h9 => h9) rfl dX12_writes_5 ?_
  have r_A_0_84 : (0 : Int) ≤ (A 0 84) ∧ (A 0 84) ≤ 48 := hI 0 84
  refine lv_iload_n hx hb dX12_writes_8 rfl (lv_at hl 1 rfl) ?_
  refine lv_sipush (v := iI 255) hx hb dX12_writes_9 (by decide +kernel) ?_
  refine lv_iand hx hb dX12_writes_12 ?_
  refine x_andE (b := 255) (by omega) (fun z1 gz1 hz1 => ?_)
  refine x_iast hx hb hK hP hDD hS 57 1 wm57 rfl (by omega) (by decide) dX12_writes_13 ws57 (fun H locs hP hS => ?_)
  have hI := hI.st (j := 57) (i := ((A 0 84)).toNat) (v := z1) (show (-2147483648 : Int) ≤ z1 ∧ z1 ≤ 2147483647 from (by omega))
  refine lv_aload_n hx hb dX12_writes_14 rfl (lv_at hl 0 rfl) ?_
  refine lv_dup hx hb dX12_writes_15 rfl ?_
  refine va_get (D := (dC, dI)) (ci := 12) (v := .int (iI (A 0 84))) (C := RX12) (T := TX12) (N := 85) hx hb hts hiX12 hown hK hP 0 wm0 rfl 84 (by decide) (hts _ (List.mem_cons_of_mem _ (wl_in_8 _ (List.mem_of_getElem? (i := 38) rfl)))) (fun _ h9 => h9) rfl dX12_writes_16 ?_
  refine lv_iconst (v := iI 1) hx hb dX12_writes_19 (by decide +kernel) ?_
  refine x_addv (v := (A 0 84) + 1) hx hb dX12_writes_20 (by omega) ?_
  refine x_put (D := (dC, dI)) (ci := 12) (v := .int (iI ((A 0 84) + 1))) (ty := .int) (C := RX12) (T := TX12) (N := 85) hx hb hts hiX12 tyX12 tyX12_ok nmX12 hown hK hP hDD hS 0 wm0 rfl 84 (by decide) (hts _ (List.mem_cons_of_mem _ (wl_in_8 _ (List.mem_of_getElem? (i := 38) rfl)))) (fun _ h9 => h9) rfl (by decide +kernel) rfl rfl (Nat.le_of_ble_eq_true rfl) dX12_writes_21 (wf84 (v := (A 0 84) + 1)) (fun H locs hP hS => ?_)
  have hI := hI.st (j := 0) (i := 84) (v := (A 0 84) + 1) (show (0 : Int) ≤ (A 0 84) + 1 ∧ (A 0 84) + 1 ≤ 48 from (by omega))
  obtain ⟨A2, hA2⟩ : ∃ A2 : St, A2 = (stA (stA A 57 ((A 0 84)).toNat z1) 0 84 ((A 0 84) + 1)) := ⟨_, rfl⟩
  rw [← hA2] at hP hI
  have e_A2_84 : A2 0 84 = (A 0 84) + 1 := by rw [hA2]; rfl
  exact RET _ _ _ _ _ ⟨(u_r_X12_writes ⟨z1, gz1.out, ⟨A2, hA2, rfl⟩⟩), hI, fr_def hA2 (fr.sf (fr.st (fr.rf) (by decide) rfl) rfl), by omega⟩ hP hS dX12_writes_24

abbrev tr_d_X12_image_3 (A17 : St) (z : Int) (u : St) (K3 : Int → Int → Prop) (z28 : Int) (z29 : Int) : Prop := ((0 ≤ z28 ∧ z28 ≤ 2147483647) ∧ ((-2147483648 ≤ z29 ∧ z29 ≤ 2147483647) ∧ ((((A17 0 84) ≤ z28) ∧ (∃ A38 : St, q_X12_writes z29 A17 A38 ∧ (z = (A38 0 84) ∧ u = A38))) ∨ ((¬ (A17 0 84) ≤ z28) ∧ (∃ z41 : Int, z41 = oWrap (3 * z29) ∧ (∃ z42 : Int, z42 = A17 57 (z28).toNat ∧ (∃ z43 : Int, z43 = oWrap (z41 + z42) ∧ (∃ z44 : Int, z44 = oRem z43 233 ∧ (K3 (z28 + 1) z44)))))))))
def d_X12_image_3 (A17 : St) (z : Int) (u : St) : Nat → Int → Int → Prop
  | 0, _, _ => False
  | nn9 + 1, z28, z29 => tr_d_X12_image_3 A17 z u (fun z28 z29 => d_X12_image_3 A17 z u nn9 z28 z29) z28 z29
theorem u_d_X12_image_3 {A17 : St} {z : Int} {u : St} {nn9 : Nat} {z28 : Int} {z29 : Int} (h : tr_d_X12_image_3 A17 z u (fun z28 z29 => d_X12_image_3 A17 z u nn9 z28 z29) z28 z29) : d_X12_image_3 A17 z u (nn9 + 1) z28 z29 := h
abbrev tr_d_X12_image_4 (K2 : Int → St → Prop) (z15 : Int) (A : St) (z : Int) (u : St) (K4 : Int → St → Prop) (z59 : Int) (A61 : St) : Prop := ((IM A61) ∧ ((0 ≤ z59 ∧ z59 ≤ 6) ∧ (∃ z69 : Int, q_X12_key4 z15 A61 z69 ∧ (∃ z72 : Int, z72 = A61 14 (4 * (A 0 12) + z15).toNat ∧ (((z72 ≤ z59) ∧ (K2 (z15 + 1) A61)) ∨ ((¬ z72 ≤ z59) ∧ (∃ z74 : Int, q_X12_key4 z15 A61 z74 ∧ (∃ z77 : Int, z77 = A61 15 (40 * (A 0 12) + 10 * z15 + z59).toNat ∧ (∃ A78 : St, q_X12_writes z77 A61 A78 ∧ (K4 (z59 + 1) A78))))))))))
def d_X12_image_4 (K2 : Int → St → Prop) (z15 : Int) (A : St) (z : Int) (u : St) : Nat → Int → St → Prop
  | 0, _, _ => False
  | nn9 + 1, z59, A61 => tr_d_X12_image_4 K2 z15 A z u (fun z59 A61 => d_X12_image_4 K2 z15 A z u nn9 z59 A61) z59 A61
theorem u_d_X12_image_4 {K2 : Int → St → Prop} {z15 : Int} {A : St} {z : Int} {u : St} {nn9 : Nat} {z59 : Int} {A61 : St} (h : tr_d_X12_image_4 K2 z15 A z u (fun z59 A61 => d_X12_image_4 K2 z15 A z u nn9 z59 A61) z59 A61) : d_X12_image_4 K2 z15 A z u (nn9 + 1) z59 A61 := h
abbrev tr_d_X12_image_2 (A : St) (z : Int) (u : St) (K2 : Int → St → Prop) (z15 : Int) (A17 : St) : Prop := ((IM A17) ∧ ((0 ≤ z15 ∧ z15 ≤ 4) ∧ (∃ z26 : Int, z26 = A17 11 ((A 0 12)).toNat ∧ (((z26 ≤ z15) ∧ (∃ nn9 : Nat, d_X12_image_3 A17 z u nn9 0 19)) ∨ ((¬ z26 ≤ z15) ∧ (∃ z45 : Int, q_X12_key4 z15 A17 z45 ∧ (∃ z48 : Int, z48 = A17 13 (4 * (A 0 12) + z15).toNat ∧ (∃ A49 : St, q_X12_writes z48 A17 A49 ∧ (∃ z52 : Int, q_X12_key4 z15 A49 z52 ∧ (∃ z55 : Int, z55 = A49 14 (4 * (A 0 12) + z15).toNat ∧ (∃ A56 : St, q_X12_writes z55 A49 A56 ∧ (∃ nn9 : Nat, d_X12_image_4 K2 z15 A z u nn9 0 A56))))))))))))
def d_X12_image_2 (A : St) (z : Int) (u : St) : Nat → Int → St → Prop
  | 0, _, _ => False
  | nn9 + 1, z15, A17 => tr_d_X12_image_2 A z u (fun z15 A17 => d_X12_image_2 A z u nn9 z15 A17) z15 A17
theorem u_d_X12_image_2 {A : St} {z : Int} {u : St} {nn9 : Nat} {z15 : Int} {A17 : St} (h : tr_d_X12_image_2 A z u (fun z15 A17 => d_X12_image_2 A z u nn9 z15 A17) z15 A17) : d_X12_image_2 A z u (nn9 + 1) z15 A17 := h
abbrev tr_d_X12_image_1 (A : St) (z : Int) (u : St) (K1 : Int → St → Prop) (z2 : Int) (A4 : St) : Prop := ((IM A4) ∧ ((0 ≤ z2 ∧ z2 ≤ 3) ∧ (∃ z13 : Int, z13 = A4 16 ((A 0 12)).toNat ∧ (((z13 ≤ z2) ∧ (∃ nn9 : Nat, d_X12_image_2 A z u nn9 0 A4)) ∨ ((¬ z13 ≤ z2) ∧ (∃ z81 : Int, q_X12_placeOf z2 A4 z81 ∧ (∃ A84 : St, q_X12_writes z81 A4 A84 ∧ (K1 (z2 + 1) A84))))))))
def d_X12_image_1 (A : St) (z : Int) (u : St) : Nat → Int → St → Prop
  | 0, _, _ => False
  | nn9 + 1, z2, A4 => tr_d_X12_image_1 A z u (fun z2 A4 => d_X12_image_1 A z u nn9 z2 A4) z2 A4
theorem u_d_X12_image_1 {A : St} {z : Int} {u : St} {nn9 : Nat} {z2 : Int} {A4 : St} (h : tr_d_X12_image_1 A z u (fun z2 A4 => d_X12_image_1 A z u nn9 z2 A4) z2 A4) : d_X12_image_1 A z u (nn9 + 1) z2 A4 := h
abbrev tr_r_X12_image (A : St) (z : Int) (u : St) : Prop := (∃ A1 : St, A1 = (stA A 0 84 0) ∧ (∃ nn9 : Nat, d_X12_image_1 A z u nn9 0 A1))
def r_X12_image (A : St) (z : Int) (u : St) : Prop := tr_r_X12_image A z u
theorem u_r_X12_image {A : St} {z : Int} {u : St} (h : tr_r_X12_image A z u) : r_X12_image A z u := h
def q_X12_image (A : St) (z : Int) (u : St) : Prop := r_X12_image A z u ∧ IM u ∧ fr [57] [84] A u ∧ (-2147483648 ≤ z ∧ z ≤ 2147483647)
def ws_mc_X12_image : List Cond := .code yX12_image cX12_image 3 (some .int) :: WX
set_option maxHeartbeats 4000000 in
set_option maxRecDepth 100000 in
theorem mc_X12_image (l : Launch) (dC : Nat → ClassId) (dI : Nat → Nat → Nat) (cB cI cJ cZ cQ : ClassId) (q : Nat → Nat) (A : St) (hI : IM A) : XMi l yX12_image ws_mc_X12_image ({ frames := 1, cells := 0, slots := 0, locals := 21 } : Room) (dC, dI) (tyA cB cI cJ cZ cQ) (WM cI cJ cZ q) A [.ref (q 0)] (fun z u => r_X12_image A z u ∧ IM u ∧ fr [57] [84] A u ∧ (-2147483648 ≤ z ∧ z ≤ 2147483647)) := by
  refine x_meti (cc := cX12_image) (maxL := 3) WM_adr (by decide +kernel) rfl (Nat.le_of_ble_eq_true rfl) (fun p e s m below meth c Q AS ls hx hb hml hown hts hK hDD hA0 hP hS hl RET => ?_)
  have hown : s.vm.findClass RX12 = some m.cls := hown
  have hl : lv_has ls 3 [(0, .ref (q 0))] := hl
  have hiX12 : ∀ w ∈ u_ws RX12 TX12 85, w ∈ ws_mc_X12_image := fun w h => List.mem_cons_of_mem _ (wx_lay w h)
  obtain ⟨H, hHe⟩ : ∃ H : Heap, H = s.heap := ⟨_, rfl⟩
  rw [← hHe] at hP
  have hS : va_S AS s.heap H [] := by rw [hHe]; exact hS
  suffices hgo : ∀ locs : List Loc, va_S AS s.heap H locs → W p l e (headSpec ws_mc_X12_image ({ frames := 1, cells := 0, slots := 0, locals := 21 } : Room)).room s m [.ref (q 0)].toArray below meth c H locs 0 0 Q (F0 m 0 ls []) by
    have := hgo [] hS
    rw [hHe] at this
    exact this
  clear hS hHe
  intro locs hS
  refine lv_aload_n hx hb dX12_image_0 rfl (lv_at hl 0 rfl) ?_
  refine lv_iconst (v := iI 0) hx hb dX12_image_1 (by decide +kernel) ?_
  refine x_put (D := (dC, dI)) (ci := 12) (v := .int (iI 0)) (ty := .int) (C := RX12) (T := TX12) (N := 85) hx hb hts hiX12 tyX12 tyX12_ok nmX12 hown hK hP hDD hS 0 wm0 rfl 84 (by decide) (hts _ (List.mem_cons_of_mem _ (wl_in_8 _ (List.mem_of_getElem? (i := 38) rfl)))) (fun _ h9 => h9) rfl (by decide +kernel) rfl rfl (Nat.le_of_ble_eq_true rfl) dX12_image_2 (wf84 (v := 0)) (fun H locs hP hS => ?_)
  have hI := hI.st (j := 0) (i := 84) (v := 0) (show (0 : Int) ≤ 0 ∧ 0 ≤ 48 from (by omega))
  refine lv_iconst (v := iI 0) hx hb dX12_image_5 (by decide +kernel) ?_
  refine lv_istore_n (lv' := [(1, .int (iI 0)), (0, .ref (q 0))]) hx hb dX12_image_6 rfl hl (by decide) rfl (fun ls hl => ?_)
  obtain ⟨A1, hA1⟩ : ∃ A1 : St, A1 = (stA A 0 84 0) := ⟨_, rfl⟩
  rw [← hA1] at hP hI
  have L7_6 : ∀ (n8 : Nat) (z2 : Int) (A4 : St) (H : Heap) (locs : List Loc) (ls : Array Slot), (0 ≤ z2) → (0 ≤ z2 ∧ z2 ≤ 3) → ((A4 0 84) = z2) → (∀ (z : Int) (u : St), (∃ mm1 : Nat, (d_X12_image_1 A z u mm1 z2 A4)) → r_X12_image A z u) → ((A 16 ((A 0 12)).toNat - z2 + 1).toNat = n8) → IM A4 → fr [57] [84] A1 A4 → va_P (dC, dI) vwCl (WM cI cJ cZ q A4) H → va_S AS s.heap H locs → lv_has ls 3 [(1, .int (iI z2)), (0, .ref (q 0))] → W p l e (headSpec ws_mc_X12_image ({ frames := 1, cells := 0, slots := 0, locals := 21 } : Room)).room s m [.ref (q 0)].toArray below meth c H locs 0 0 Q (F0 m 7 ls []) := by
    intro n8
    induction n8 using Nat.strongRecOn with
    | ind n8 ih7 =>
      intro z2 A4 H locs ls f9 f10 f11 hk1 hn8 hI hj3 hP hS hl
      have gI12 : Hd (IM A4) := Hd.mk hI
      refine lv_iload_n hx hb dX12_image_7 rfl (lv_at hl 0 rfl) ?_
      refine lv_aload_n hx hb dX12_image_8 rfl (lv_at hl 1 rfl) ?_
      refine va_get (D := (dC, dI)) (ci := 12) (v := .ref (q 16)) (C := RX12) (T := TX12) (N := 85) hx hb hts hiX12 hown hK hP 0 wm0 rfl 27 (by decide) (hts _ (List.mem_cons_of_mem _ (wl_in_1 _ (List.mem_of_getElem? (i := 15) rfl)))) (fun _ h9 => h9) rfl dX12_image_9 ?_
      refine lv_aload_n hx hb dX12_image_12 rfl (lv_at hl 1 rfl) ?_
      have e_A1_12 : A1 0 12 = (A 0 12) := by rw [hA1]; exact rfl
      have e_A4_12 : A4 0 12 = (A 0 12) := (hj3.2 12 rfl).trans e_A1_12
      refine va_get (D := (dC, dI)) (ci := 12) (v := .int (iI (A4 0 12))) (C := RX12) (T := TX12) (N := 85) hx hb hts hiX12 hown hK hP 0 wm0 rfl 12 (by decide) (hts _ (List.mem_cons_of_mem _ (wl_in_4 _ (List.mem_of_getElem? (i := 14) rfl)))) (fun _ h9 => h9) rfl dX12_image_13 ?_
      refine tp_i (y := iI (A 0 12)) (congrArg iI e_A4_12) ?_
      have r_A_0_12 : (0 : Int) ≤ (A 0 12) ∧ (A 0 12) ≤ 1 := by rw [← e_A4_12]; exact hI 0 12
      have a_A1_16 : A1 16 = A 16 := by rw [hA1]; exact rfl
      have a_A4_16 : A4 16 = A 16 := (hj3.1 16 (by decide) rfl).trans a_A1_16
      refine x_iald hx hb hK hP 16 1 wm16 rfl (by omega) (by decide) dX12_image_16 (fun z13 hz13 => ?_)
      have rz13 : (0 : Int) ≤ z13 ∧ z13 ≤ 3 := by rw [hz13]; exact hI 16 _
      have gz13 := Hd.mk hz13
      have hz13 : z13 = A 16 ((A 0 12)).toNat := hz13.trans (congrFun a_A4_16 _)
      refine lv_icmp_ge (tgt := 35) hx hb dX12_image_17 (by decide) (fun c14 => ?_) (fun c14 => ?_)
      · have c14 : z13 ≤ z2 := (i_le (rb rz13 (by decide) (by decide)) (rb f10 (by decide) (by decide))).mp c14
        refine lv_iconst (v := iI 0) hx hb dX12_image_35 (by decide +kernel) ?_
        refine lv_istore_n (lv' := [(1, .int (iI 0)), (0, .ref (q 0))]) hx hb dX12_image_36 rfl hl (by decide) rfl (fun ls hl => ?_)
        have L37_19 : ∀ (n21 : Nat) (z15 : Int) (A17 : St) (H : Heap) (locs : List Loc) (ls : Array Slot), (0 ≤ z15) → (0 ≤ z15 ∧ z15 ≤ 4) → ((A17 0 84) ≤ 3 + 8 * z15) → (∀ (z : Int) (u : St), (∃ mm1 mm2 : Nat, (d_X12_image_2 A z u mm2 z15 A17)) → r_X12_image A z u) → ((A 11 ((A 0 12)).toNat - z15 + 1).toNat = n21) → IM A17 → fr [57] [84] A4 A17 → va_P (dC, dI) vwCl (WM cI cJ cZ q A17) H → va_S AS s.heap H locs → lv_has ls 3 [(1, .int (iI z15)), (0, .ref (q 0))] → W p l e (headSpec ws_mc_X12_image ({ frames := 1, cells := 0, slots := 0, locals := 21 } : Room)).room s m [.ref (q 0)].toArray below meth c H locs 0 0 Q (F0 m 37 ls []) := by
          intro n21
          induction n21 using Nat.strongRecOn with
          | ind n21 ih20 =>
            intro z15 A17 H locs ls f22 f23 f24 hk2 hn21 hI hj16 hP hS hl
            have gI25 : Hd (IM A17) := Hd.mk hI
            refine lv_iload_n hx hb dX12_image_37 rfl (lv_at hl 0 rfl) ?_
            refine lv_aload_n hx hb dX12_image_38 rfl (lv_at hl 1 rfl) ?_
            refine va_get (D := (dC, dI)) (ci := 12) (v := .ref (q 11)) (C := RX12) (T := TX12) (N := 85) hx hb hts hiX12 hown hK hP 0 wm0 rfl 22 (by decide) (hts _ (List.mem_cons_of_mem _ (wl_in_1 _ (List.mem_of_getElem? (i := 14) rfl)))) (fun _ h9 => h9) rfl dX12_image_39 ?_
            refine lv_aload_n hx hb dX12_image_42 rfl (lv_at hl 1 rfl) ?_
            have e_A17_12 : A17 0 12 = (A 0 12) := (hj16.2 12 rfl).trans e_A4_12
            refine va_get (D := (dC, dI)) (ci := 12) (v := .int (iI (A17 0 12))) (C := RX12) (T := TX12) (N := 85) hx hb hts hiX12 hown hK hP 0 wm0 rfl 12 (by decide) (hts _ (List.mem_cons_of_mem _ (wl_in_4 _ (List.mem_of_getElem? (i := 14) rfl)))) (fun _ h9 => h9) rfl dX12_image_43 ?_
            refine tp_i (y := iI (A 0 12)) (congrArg iI e_A17_12) ?_
            have a_A1_11 : A1 11 = A 11 := by rw [hA1]; exact rfl
            have a_A4_11 : A4 11 = A 11 := (hj3.1 11 (by decide) rfl).trans a_A1_11
            have a_A17_11 : A17 11 = A 11 := (hj16.1 11 (by decide) rfl).trans a_A4_11
            refine x_iald hx hb hK hP 11 1 wm11 rfl (by omega) (by decide) dX12_image_46 (fun z26 hz26 => ?_)
            have rz26 : (0 : Int) ≤ z26 ∧ z26 ≤ 4 := by rw [hz26]; exact hI 11 _
            have gz26 := Hd.mk hz26
            have hz26 : z26 = A 11 ((A 0 12)).toNat := hz26.trans (congrFun a_A17_11 _)
            refine lv_icmp_ge (tgt := 125) hx hb dX12_image_47 (by decide) (fun c27 => ?_) (fun c27 => ?_)
            · have c27 : z26 ≤ z15 := (i_le (rb rz26 (by decide) (by decide)) (rb f23 (by decide) (by decide))).mp c27
              refine lv_bipush (v := iI 19) hx hb dX12_image_125 (by decide +kernel) ?_
              refine lv_istore_n (lv' := [(1, .int (iI 19)), (0, .ref (q 0))]) hx hb dX12_image_127 rfl hl (by decide) rfl (fun ls hl => ?_)
              refine lv_iconst (v := iI 0) hx hb dX12_image_128 (by decide +kernel) ?_
              refine lv_istore_n (lv' := [(2, .int (iI 0)), (1, .int (iI 19)), (0, .ref (q 0))]) hx hb dX12_image_129 rfl hl (by decide) rfl (fun ls hl => ?_)
              have L130_31 : ∀ (n33 : Nat) (z28 z29 : Int) (H : Heap) (locs : List Loc) (ls : Array Slot), (0 ≤ z28) → (0 ≤ z28 ∧ z28 ≤ 2147483647) → (-2147483648 ≤ z29 ∧ z29 ≤ 2147483647) → (∀ (z : Int) (u : St), (∃ mm1 mm2 mm3 : Nat, (d_X12_image_3 A17 z u mm3 z28 z29)) → r_X12_image A z u) → (((A17 0 84) - z28 + 1).toNat = n33) → va_P (dC, dI) vwCl (WM cI cJ cZ q A17) H → va_S AS s.heap H locs → lv_has ls 3 [(2, .int (iI z28)), (1, .int (iI z29)), (0, .ref (q 0))] → W p l e (headSpec ws_mc_X12_image ({ frames := 1, cells := 0, slots := 0, locals := 21 } : Room)).room s m [.ref (q 0)].toArray below meth c H locs 0 0 Q (F0 m 130 ls []) := by
                intro n33
                induction n33 using Nat.strongRecOn with
                | ind n33 ih32 =>
                  intro z28 z29 H locs ls f34 f35 f36 hk3 hn33 hP hS hl
                  refine lv_iload_n hx hb dX12_image_130 rfl (lv_at hl 0 rfl) ?_
                  refine lv_aload_n hx hb dX12_image_131 rfl (lv_at hl 2 rfl) ?_
                  refine va_get (D := (dC, dI)) (ci := 12) (v := .int (iI (A17 0 84))) (C := RX12) (T := TX12) (N := 85) hx hb hts hiX12 hown hK hP 0 wm0 rfl 84 (by decide) (hts _ (List.mem_cons_of_mem _ (wl_in_8 _ (List.mem_of_getElem? (i := 38) rfl)))) (fun _ h9 => h9) rfl dX12_image_132 ?_
                  have r_A17_0_84 : (0 : Int) ≤ (A17 0 84) ∧ (A17 0 84) ≤ 48 := hI 0 84
                  refine lv_icmp_ge (tgt := 159) hx hb dX12_image_135 (by decide) (fun c37 => ?_) (fun c37 => ?_)
                  · have c37 : (A17 0 84) ≤ z28 := (i_le (rb r_A17_0_84 (by decide) (by decide)) (rb f35 (by decide) (by decide))).mp c37
                    refine lv_aload_n hx hb dX12_image_159 rfl (lv_at hl 2 rfl) ?_
                    refine lv_iload_n hx hb dX12_image_160 rfl (lv_at hl 1 rfl) ?_
                    refine x_callv (As := [.int (iI z29)]) (rest := []) ⟨hx, hb, hml, hown, hts⟩ (mc_X12_writes l dC dI cB cI cJ cZ cQ q _ z29 hI f36 (by omega)) (cwV 1 hts (goodV (wl_in_8 _ (List.mem_of_getElem? (i := 40) rfl)) (wl_in_8 _ (List.mem_of_getElem? (i := 41) rfl)) (wl_in_8 _ (List.mem_of_getElem? (i := 42) rfl)) (wl_in_0 _ (List.mem_of_getElem? (i := 8) rfl)) (wl_in_8 _ (List.mem_of_getElem? (i := 36) rfl))) rfl rfl rfl (by decide +kernel) ⟨Nat.le_of_ble_eq_true rfl, Nat.le_of_ble_eq_true rfl⟩) hK hDD hA0 hP hS 0 12 wm0 rfl rfl hl.1 (Nat.le_of_ble_eq_true rfl) dX12_image_161 (fun A38 H locs hw39 hP hS => ?_)
                    have ghw39 : q_X12_writes z29 A17 A38 := hw39
                    obtain ⟨_, hI, hf40, hw39⟩ := hw39
                    have r_A38_0_84 : (0 : Int) ≤ (A38 0 84) ∧ (A38 0 84) ≤ 48 := hI 0 84
                    refine lv_aload_n hx hb dX12_image_164 rfl (lv_at hl 2 rfl) ?_
                    refine va_get (D := (dC, dI)) (ci := 12) (v := .int (iI (A38 0 84))) (C := RX12) (T := TX12) (N := 85) hx hb hts hiX12 hown hK hP 0 wm0 rfl 84 (by decide) (hts _ (List.mem_cons_of_mem _ (wl_in_8 _ (List.mem_of_getElem? (i := 38) rfl)))) (fun _ h9 => h9) rfl dX12_image_165 ?_
                    exact RET (A38 0 84) _ _ _ _ _ ⟨hk3 _ _ ⟨0, 0, 0 + 1, (u_d_X12_image_3 ⟨f35, ⟨f36, (Or.inl ⟨c37, ⟨A38, ghw39, ⟨rfl, rfl⟩⟩⟩)⟩⟩)⟩, hI, fr.trans (fr.trans (fr.trans (fr_def hA1 (fr.sf (fr.rf) rfl)) hj3 rfl rfl) hj16 rfl rfl) hf40 rfl rfl, by omega⟩ hP hS dX12_image_168
                  · have c37 : ¬ (A17 0 84) ≤ z28 := mt (i_le (rb r_A17_0_84 (by decide) (by decide)) (rb f35 (by decide) (by decide))).mpr c37
                    refine lv_iconst (v := iI 3) hx hb dX12_image_138 (by decide +kernel) ?_
                    refine lv_iload_n hx hb dX12_image_139 rfl (lv_at hl 1 rfl) ?_
                    refine x_mulv (v := 3 * z29) hx hb dX12_image_140 (by omega) ?_
                    refine x_absE (fun z41 gz41 hz41 => ?_)
                    refine lv_aload_n hx hb dX12_image_141 rfl (lv_at hl 2 rfl) ?_
                    refine va_get (D := (dC, dI)) (ci := 12) (v := .ref (q 57)) (C := RX12) (T := TX12) (N := 85) hx hb hts hiX12 hown hK hP 0 wm0 rfl 83 (by decide) (hts _ (List.mem_cons_of_mem _ (wl_in_8 _ (List.mem_of_getElem? (i := 37) rfl)))) (fun _ h9 => h9) rfl dX12_image_142 ?_
                    refine lv_iload_n hx hb dX12_image_145 rfl (lv_at hl 0 rfl) ?_
                    refine x_iald hx hb hK hP 57 1 wm57 rfl (by omega) (by decide) dX12_image_146 (fun z42 hz42 => ?_)
                    have rz42 : (-2147483648 : Int) ≤ z42 ∧ z42 ≤ 2147483647 := by rw [hz42]; exact hI 57 _
                    have gz42 := Hd.mk hz42
                    have hz42 : z42 = A17 57 (z28).toNat := hz42
                    refine x_addv (v := z41 + z42) hx hb dX12_image_147 (by omega) ?_
                    refine x_absE (fun z43 gz43 hz43 => ?_)
                    refine lv_sipush (v := iI 233) hx hb dX12_image_148 (by decide +kernel) ?_
                    refine lv_irem hx hb dX12_image_151 (by decide +kernel) ?_
                    refine x_absE (fun z44 gz44 hz44 => ?_)
                    refine lv_istore_n (lv' := [(1, .int (iI z44)), (2, .int (iI z28)), (0, .ref (q 0))]) hx hb dX12_image_152 rfl hl (by decide) rfl (fun ls hl => ?_)
                    refine lv_iinc (v := iI (z28 + 1)) (lv' := [(2, .int (iI (z28 + 1))), (1, .int (iI z44)), (0, .ref (q 0))]) hx hb dX12_image_153 hl (k := 1) rfl (i_inc (by omega)) (by decide) rfl (fun ls hl => ?_)
                    refine lv_goto (tgt := 130) hx hb dX12_image_156 (by decide) ?_
                    exact ih32 _ (by omega) (z28 + 1) z44 _ _ _ (by omega) (by omega) (by omega) (fun zq uq ⟨mm1, mm2, mm3, hq⟩ => hk3 _ _ ⟨mm1, mm2, mm3 + 1, (u_d_X12_image_3 ⟨f35, ⟨f36, (Or.inr ⟨c37, ⟨z41, gz41.out, ⟨z42, gz42.out, ⟨z43, gz43.out, ⟨z44, gz44.out, hq⟩⟩⟩⟩⟩)⟩⟩)⟩) rfl hP hS (lv_sub hl [0, 1, 2] rfl)
              exact L130_31 _ 0 19 _ _ _ (by omega) (by omega) (by omega) (fun zq uq ⟨mm1, mm2, mm3, hq⟩ => hk2 _ _ ⟨mm1, mm2 + 1, (u_d_X12_image_2 ⟨gI25.out, ⟨f23, ⟨z26, gz26.out, (Or.inl ⟨c27, ⟨mm3, hq⟩⟩)⟩⟩⟩)⟩) rfl hP hS (lv_sub hl [0, 1, 2] rfl)
            · have c27 : ¬ z26 ≤ z15 := mt (i_le (rb rz26 (by decide) (by decide)) (rb f23 (by decide) (by decide))).mpr c27
              refine lv_aload_n hx hb dX12_image_50 rfl (lv_at hl 1 rfl) ?_
              refine lv_aload_n hx hb dX12_image_51 rfl (lv_at hl 1 rfl) ?_
              refine va_get (D := (dC, dI)) (ci := 12) (v := .ref (q 13)) (C := RX12) (T := TX12) (N := 85) hx hb hts hiX12 hown hK hP 0 wm0 rfl 24 (by decide) (hts _ (List.mem_cons_of_mem _ (wl_in_2 _ (List.mem_of_getElem? (i := 58) rfl)))) (fun _ h9 => h9) rfl dX12_image_52 ?_
              refine lv_aload_n hx hb dX12_image_55 rfl (lv_at hl 1 rfl) ?_
              refine lv_iload_n hx hb dX12_image_56 rfl (lv_at hl 0 rfl) ?_
              refine x_calli (As := [.int (iI z15)]) (rest := [.ref (q 13), .ref (q 0)]) ⟨hx, hb, hml, hown, hts⟩ (mc_X12_key4 l dC dI cB cI cJ cZ cQ q _ z15 hI (by omega)) (cwV 1 hts (goodV (wl_in_4 _ (List.mem_of_getElem? (i := 44) rfl)) (wl_in_4 _ (List.mem_of_getElem? (i := 45) rfl)) (wl_in_4 _ (List.mem_of_getElem? (i := 46) rfl)) (wl_in_0 _ (List.mem_of_getElem? (i := 8) rfl)) (wl_in_4 _ (List.mem_of_getElem? (i := 41) rfl))) rfl rfl rfl (by decide +kernel) ⟨Nat.le_of_ble_eq_true rfl, Nat.le_of_ble_eq_true rfl⟩) hK hDD hA0 hP hS 0 12 wm0 rfl rfl hl.1 (Nat.le_of_ble_eq_true rfl) dX12_image_57 (fun z45 A46 H locs hw47 hP hS => ?_)
              obtain ⟨rfl, hw47⟩ := hw47
              have ghw47 : q_X12_key4 z15 A17 z45 := hw47
              have hw47 := hw47.2
              refine tp_i (y := iI (4 * (A 0 12) + z15)) (congrArg iI (show z45 = 4 * (A 0 12) + z15 by omega)) ?_
              clear hw47
              have a_A1_13 : A1 13 = A 13 := by rw [hA1]; exact rfl
              have a_A4_13 : A4 13 = A 13 := (hj3.1 13 (by decide) rfl).trans a_A1_13
              have a_A17_13 : A17 13 = A 13 := (hj16.1 13 (by decide) rfl).trans a_A4_13
              refine x_iald hx hb hK hP 13 1 wm13 rfl (by omega) (by decide) dX12_image_60 (fun z48 hz48 => ?_)
              have rz48 : (0 : Int) ≤ z48 ∧ z48 ≤ 40 := by rw [hz48]; exact hI 13 _
              have gz48 := Hd.mk hz48
              have hz48 : z48 = A 13 (4 * (A 0 12) + z15).toNat := hz48.trans (congrFun a_A17_13 _)
              have r_A17_0_84 : (0 : Int) ≤ (A17 0 84) ∧ (A17 0 84) ≤ 48 := hI 0 84
              refine x_callv (As := [.int (iI z48)]) (rest := []) ⟨hx, hb, hml, hown, hts⟩ (mc_X12_writes l dC dI cB cI cJ cZ cQ q _ z48 hI (rb rz48 (by decide) (by decide)) (by omega)) (cwV 1 hts (goodV (wl_in_8 _ (List.mem_of_getElem? (i := 40) rfl)) (wl_in_8 _ (List.mem_of_getElem? (i := 41) rfl)) (wl_in_8 _ (List.mem_of_getElem? (i := 42) rfl)) (wl_in_0 _ (List.mem_of_getElem? (i := 8) rfl)) (wl_in_8 _ (List.mem_of_getElem? (i := 36) rfl))) rfl rfl rfl (by decide +kernel) ⟨Nat.le_of_ble_eq_true rfl, Nat.le_of_ble_eq_true rfl⟩) hK hDD hA0 hP hS 0 12 wm0 rfl rfl hl.1 (Nat.le_of_ble_eq_true rfl) dX12_image_61 (fun A49 H locs hw50 hP hS => ?_)
              have ghw50 : q_X12_writes z48 A17 A49 := hw50
              obtain ⟨_, hI, hf51, hw50⟩ := hw50
              have r_A49_0_84 : (0 : Int) ≤ (A49 0 84) ∧ (A49 0 84) ≤ 48 := hI 0 84
              refine lv_aload_n hx hb dX12_image_64 rfl (lv_at hl 1 rfl) ?_
              refine lv_aload_n hx hb dX12_image_65 rfl (lv_at hl 1 rfl) ?_
              refine va_get (D := (dC, dI)) (ci := 12) (v := .ref (q 14)) (C := RX12) (T := TX12) (N := 85) hx hb hts hiX12 hown hK hP 0 wm0 rfl 25 (by decide) (hts _ (List.mem_cons_of_mem _ (wl_in_2 _ (List.mem_of_getElem? (i := 59) rfl)))) (fun _ h9 => h9) rfl dX12_image_66 ?_
              refine lv_aload_n hx hb dX12_image_69 rfl (lv_at hl 1 rfl) ?_
              refine lv_iload_n hx hb dX12_image_70 rfl (lv_at hl 0 rfl) ?_
              have e_A49_12 : A49 0 12 = (A 0 12) := (hf51.2 12 rfl).trans e_A17_12
              refine x_calli (As := [.int (iI z15)]) (rest := [.ref (q 14), .ref (q 0)]) ⟨hx, hb, hml, hown, hts⟩ (mc_X12_key4 l dC dI cB cI cJ cZ cQ q _ z15 hI (by omega)) (cwV 1 hts (goodV (wl_in_4 _ (List.mem_of_getElem? (i := 44) rfl)) (wl_in_4 _ (List.mem_of_getElem? (i := 45) rfl)) (wl_in_4 _ (List.mem_of_getElem? (i := 46) rfl)) (wl_in_0 _ (List.mem_of_getElem? (i := 8) rfl)) (wl_in_4 _ (List.mem_of_getElem? (i := 41) rfl))) rfl rfl rfl (by decide +kernel) ⟨Nat.le_of_ble_eq_true rfl, Nat.le_of_ble_eq_true rfl⟩) hK hDD hA0 hP hS 0 12 wm0 rfl rfl hl.1 (Nat.le_of_ble_eq_true rfl) dX12_image_71 (fun z52 A53 H locs hw54 hP hS => ?_)
              obtain ⟨rfl, hw54⟩ := hw54
              have ghw54 : q_X12_key4 z15 A49 z52 := hw54
              have hw54 := hw54.2
              refine tp_i (y := iI (4 * (A 0 12) + z15)) (congrArg iI (show z52 = 4 * (A 0 12) + z15 by omega)) ?_
              clear hw54
              have a_A1_14 : A1 14 = A 14 := by rw [hA1]; exact rfl
              have a_A4_14 : A4 14 = A 14 := (hj3.1 14 (by decide) rfl).trans a_A1_14
              have a_A17_14 : A17 14 = A 14 := (hj16.1 14 (by decide) rfl).trans a_A4_14
              have a_A49_14 : A49 14 = A 14 := (hf51.1 14 (by decide) rfl).trans a_A17_14
              refine x_iald hx hb hK hP 14 1 wm14 rfl (by omega) (by decide) dX12_image_74 (fun z55 hz55 => ?_)
              have rz55 : (0 : Int) ≤ z55 ∧ z55 ≤ 6 := by rw [hz55]; exact hI 14 _
              have gz55 := Hd.mk hz55
              have hz55 : z55 = A 14 (4 * (A 0 12) + z15).toNat := hz55.trans (congrFun a_A49_14 _)
              refine x_callv (As := [.int (iI z55)]) (rest := []) ⟨hx, hb, hml, hown, hts⟩ (mc_X12_writes l dC dI cB cI cJ cZ cQ q _ z55 hI (rb rz55 (by decide) (by decide)) (by omega)) (cwV 1 hts (goodV (wl_in_8 _ (List.mem_of_getElem? (i := 40) rfl)) (wl_in_8 _ (List.mem_of_getElem? (i := 41) rfl)) (wl_in_8 _ (List.mem_of_getElem? (i := 42) rfl)) (wl_in_0 _ (List.mem_of_getElem? (i := 8) rfl)) (wl_in_8 _ (List.mem_of_getElem? (i := 36) rfl))) rfl rfl rfl (by decide +kernel) ⟨Nat.le_of_ble_eq_true rfl, Nat.le_of_ble_eq_true rfl⟩) hK hDD hA0 hP hS 0 12 wm0 rfl rfl hl.1 (Nat.le_of_ble_eq_true rfl) dX12_image_75 (fun A56 H locs hw57 hP hS => ?_)
              have ghw57 : q_X12_writes z55 A49 A56 := hw57
              obtain ⟨_, hI, hf58, hw57⟩ := hw57
              have r_A56_0_84 : (0 : Int) ≤ (A56 0 84) ∧ (A56 0 84) ≤ 48 := hI 0 84
              refine lv_iconst (v := iI 0) hx hb dX12_image_78 (by decide +kernel) ?_
              refine lv_istore_n (lv' := [(2, .int (iI 0)), (1, .int (iI z15)), (0, .ref (q 0))]) hx hb dX12_image_79 rfl hl (by decide) rfl (fun ls hl => ?_)
              have L80_62 : ∀ (n64 : Nat) (z59 : Int) (A61 : St) (H : Heap) (locs : List Loc) (ls : Array Slot), (0 ≤ z59) → (0 ≤ z59 ∧ z59 ≤ 6) → ((A61 0 84) ≤ 5 + 8 * z15 + z59) → (∀ (z : Int) (u : St), (∃ mm1 mm2 mm4 : Nat, (d_X12_image_4 (fun z15' A17' => d_X12_image_2 A z u mm2 z15' A17') z15 A z u mm4 z59 A61)) → r_X12_image A z u) → ((6 - z59).toNat = n64) → IM A61 → fr [57] [84] A56 A61 → va_P (dC, dI) vwCl (WM cI cJ cZ q A61) H → va_S AS s.heap H locs → lv_has ls 3 [(2, .int (iI z59)), (1, .int (iI z15)), (0, .ref (q 0))] → W p l e (headSpec ws_mc_X12_image ({ frames := 1, cells := 0, slots := 0, locals := 21 } : Room)).room s m [.ref (q 0)].toArray below meth c H locs 0 0 Q (F0 m 80 ls []) := by
                intro n64
                induction n64 using Nat.strongRecOn with
                | ind n64 ih63 =>
                  intro z59 A61 H locs ls f65 f66 f67 hk4 hn64 hI hj60 hP hS hl
                  have gI68 : Hd (IM A61) := Hd.mk hI
                  refine lv_iload_n hx hb dX12_image_80 rfl (lv_at hl 0 rfl) ?_
                  refine lv_aload_n hx hb dX12_image_81 rfl (lv_at hl 2 rfl) ?_
                  refine va_get (D := (dC, dI)) (ci := 12) (v := .ref (q 14)) (C := RX12) (T := TX12) (N := 85) hx hb hts hiX12 hown hK hP 0 wm0 rfl 25 (by decide) (hts _ (List.mem_cons_of_mem _ (wl_in_2 _ (List.mem_of_getElem? (i := 59) rfl)))) (fun _ h9 => h9) rfl dX12_image_82 ?_
                  refine lv_aload_n hx hb dX12_image_85 rfl (lv_at hl 2 rfl) ?_
                  refine lv_iload_n hx hb dX12_image_86 rfl (lv_at hl 1 rfl) ?_
                  have e_A56_12 : A56 0 12 = (A 0 12) := (hf58.2 12 rfl).trans e_A49_12
                  have e_A61_12 : A61 0 12 = (A 0 12) := (hj60.2 12 rfl).trans e_A56_12
                  refine x_calli (As := [.int (iI z15)]) (rest := [.ref (q 14), .int (iI z59)]) ⟨hx, hb, hml, hown, hts⟩ (mc_X12_key4 l dC dI cB cI cJ cZ cQ q _ z15 hI (by omega)) (cwV 1 hts (goodV (wl_in_4 _ (List.mem_of_getElem? (i := 44) rfl)) (wl_in_4 _ (List.mem_of_getElem? (i := 45) rfl)) (wl_in_4 _ (List.mem_of_getElem? (i := 46) rfl)) (wl_in_0 _ (List.mem_of_getElem? (i := 8) rfl)) (wl_in_4 _ (List.mem_of_getElem? (i := 41) rfl))) rfl rfl rfl (by decide +kernel) ⟨Nat.le_of_ble_eq_true rfl, Nat.le_of_ble_eq_true rfl⟩) hK hDD hA0 hP hS 0 12 wm0 rfl rfl hl.1 (Nat.le_of_ble_eq_true rfl) dX12_image_87 (fun z69 A70 H locs hw71 hP hS => ?_)
                  obtain ⟨rfl, hw71⟩ := hw71
                  have ghw71 : q_X12_key4 z15 A61 z69 := hw71
                  have hw71 := hw71.2
                  refine tp_i (y := iI (4 * (A 0 12) + z15)) (congrArg iI (show z69 = 4 * (A 0 12) + z15 by omega)) ?_
                  clear hw71
                  have a_A56_14 : A56 14 = A 14 := (hf58.1 14 (by decide) rfl).trans a_A49_14
                  have a_A61_14 : A61 14 = A 14 := (hj60.1 14 (by decide) rfl).trans a_A56_14
                  refine x_iald hx hb hK hP 14 1 wm14 rfl (by omega) (by decide) dX12_image_90 (fun z72 hz72 => ?_)
                  have rz72 : (0 : Int) ≤ z72 ∧ z72 ≤ 6 := by rw [hz72]; exact hI 14 _
                  have gz72 := Hd.mk hz72
                  have hz72 : z72 = A 14 (4 * (A 0 12) + z15).toNat := hz72.trans (congrFun a_A61_14 _)
                  have ez72 : z72 = z55 := hz72.trans hz55.symm
                  refine lv_icmp_ge (tgt := 119) hx hb dX12_image_91 (by decide) (fun c73 => ?_) (fun c73 => ?_)
                  · have c73 : z72 ≤ z59 := (i_le (rb rz72 (by decide) (by decide)) (rb f66 (by decide) (by decide))).mp c73
                    refine lv_iinc (v := iI (z15 + 1)) (lv' := [(1, .int (iI (z15 + 1))), (2, .int (iI z59)), (0, .ref (q 0))]) hx hb dX12_image_119 hl (k := 1) rfl (i_inc (by omega)) (by decide) rfl (fun ls hl => ?_)
                    refine lv_goto (tgt := 37) hx hb dX12_image_122 (by decide) ?_
                    have r_A61_0_84 : (0 : Int) ≤ (A61 0 84) ∧ (A61 0 84) ≤ 48 := hI 0 84
                    exact ih20 _ (by omega) (z15 + 1) _ _ _ _ (by omega) (by omega) (by omega) (fun zq uq ⟨mm1, mm2, hq⟩ => hk4 _ _ ⟨mm1, mm2, 0 + 1, (u_d_X12_image_4 ⟨gI68.out, ⟨f66, ⟨z69, ghw71, ⟨z72, gz72.out, (Or.inl ⟨c73, hq⟩)⟩⟩⟩⟩)⟩) rfl hI (fr.trans (fr.trans (fr.trans (fr.trans (fr.rf) hj16 rfl rfl) hf51 rfl rfl) hf58 rfl rfl) hj60 rfl rfl) hP hS (lv_sub hl [0, 2] rfl)
                  · have c73 : ¬ z72 ≤ z59 := mt (i_le (rb rz72 (by decide) (by decide)) (rb f66 (by decide) (by decide))).mpr c73
                    refine lv_aload_n hx hb dX12_image_94 rfl (lv_at hl 2 rfl) ?_
                    refine lv_aload_n hx hb dX12_image_95 rfl (lv_at hl 2 rfl) ?_
                    refine va_get (D := (dC, dI)) (ci := 12) (v := .ref (q 15)) (C := RX12) (T := TX12) (N := 85) hx hb hts hiX12 hown hK hP 0 wm0 rfl 26 (by decide) (hts _ (List.mem_cons_of_mem _ (wl_in_3 _ (List.mem_of_getElem? (i := 7) rfl)))) (fun _ h9 => h9) rfl dX12_image_96 ?_
                    refine lv_bipush (v := iI 10) hx hb dX12_image_99 (by decide +kernel) ?_
                    refine lv_aload_n hx hb dX12_image_101 rfl (lv_at hl 2 rfl) ?_
                    refine lv_iload_n hx hb dX12_image_102 rfl (lv_at hl 1 rfl) ?_
                    refine x_calli (As := [.int (iI z15)]) (rest := [.int (iI 10), .ref (q 15), .ref (q 0)]) ⟨hx, hb, hml, hown, hts⟩ (mc_X12_key4 l dC dI cB cI cJ cZ cQ q _ z15 hI (by omega)) (cwV 1 hts (goodV (wl_in_4 _ (List.mem_of_getElem? (i := 44) rfl)) (wl_in_4 _ (List.mem_of_getElem? (i := 45) rfl)) (wl_in_4 _ (List.mem_of_getElem? (i := 46) rfl)) (wl_in_0 _ (List.mem_of_getElem? (i := 8) rfl)) (wl_in_4 _ (List.mem_of_getElem? (i := 41) rfl))) rfl rfl rfl (by decide +kernel) ⟨Nat.le_of_ble_eq_true rfl, Nat.le_of_ble_eq_true rfl⟩) hK hDD hA0 hP hS 0 12 wm0 rfl rfl hl.1 (Nat.le_of_ble_eq_true rfl) dX12_image_103 (fun z74 A75 H locs hw76 hP hS => ?_)
                    obtain ⟨rfl, hw76⟩ := hw76
                    have ghw76 : q_X12_key4 z15 A61 z74 := hw76
                    have hw76 := hw76.2
                    refine tp_i (y := iI (4 * (A 0 12) + z15)) (congrArg iI (show z74 = 4 * (A 0 12) + z15 by omega)) ?_
                    clear hw76
                    refine x_mulv (v := 40 * (A 0 12) + 10 * z15) hx hb dX12_image_106 (by omega) ?_
                    refine lv_iload_n hx hb dX12_image_107 rfl (lv_at hl 0 rfl) ?_
                    refine x_addv (v := 40 * (A 0 12) + 10 * z15 + z59) hx hb dX12_image_108 (by omega) ?_
                    have a_A1_15 : A1 15 = A 15 := by rw [hA1]; exact rfl
                    have a_A4_15 : A4 15 = A 15 := (hj3.1 15 (by decide) rfl).trans a_A1_15
                    have a_A17_15 : A17 15 = A 15 := (hj16.1 15 (by decide) rfl).trans a_A4_15
                    have a_A49_15 : A49 15 = A 15 := (hf51.1 15 (by decide) rfl).trans a_A17_15
                    have a_A56_15 : A56 15 = A 15 := (hf58.1 15 (by decide) rfl).trans a_A49_15
                    have a_A61_15 : A61 15 = A 15 := (hj60.1 15 (by decide) rfl).trans a_A56_15
                    refine x_iald hx hb hK hP 15 1 wm15 rfl (by omega) (by decide) dX12_image_109 (fun z77 hz77 => ?_)
                    have rz77 : (0 : Int) ≤ z77 ∧ z77 ≤ 9 := by rw [hz77]; exact hI 15 _
                    have gz77 := Hd.mk hz77
                    have hz77 : z77 = A 15 (40 * (A 0 12) + 10 * z15 + z59).toNat := hz77.trans (congrFun a_A61_15 _)
                    have r_A61_0_84 : (0 : Int) ≤ (A61 0 84) ∧ (A61 0 84) ≤ 48 := hI 0 84
                    refine x_callv (As := [.int (iI z77)]) (rest := []) ⟨hx, hb, hml, hown, hts⟩ (mc_X12_writes l dC dI cB cI cJ cZ cQ q _ z77 hI (rb rz77 (by decide) (by decide)) (by omega)) (cwV 1 hts (goodV (wl_in_8 _ (List.mem_of_getElem? (i := 40) rfl)) (wl_in_8 _ (List.mem_of_getElem? (i := 41) rfl)) (wl_in_8 _ (List.mem_of_getElem? (i := 42) rfl)) (wl_in_0 _ (List.mem_of_getElem? (i := 8) rfl)) (wl_in_8 _ (List.mem_of_getElem? (i := 36) rfl))) rfl rfl rfl (by decide +kernel) ⟨Nat.le_of_ble_eq_true rfl, Nat.le_of_ble_eq_true rfl⟩) hK hDD hA0 hP hS 0 12 wm0 rfl rfl hl.1 (Nat.le_of_ble_eq_true rfl) dX12_image_110 (fun A78 H locs hw79 hP hS => ?_)
                    have ghw79 : q_X12_writes z77 A61 A78 := hw79
                    obtain ⟨_, hI, hf80, hw79⟩ := hw79
                    have r_A78_0_84 : (0 : Int) ≤ (A78 0 84) ∧ (A78 0 84) ≤ 48 := hI 0 84
                    refine lv_iinc (v := iI (z59 + 1)) (lv' := [(2, .int (iI (z59 + 1))), (1, .int (iI z15)), (0, .ref (q 0))]) hx hb dX12_image_113 hl (k := 0) rfl (i_inc (by omega)) (by decide) rfl (fun ls hl => ?_)
                    refine lv_goto (tgt := 80) hx hb dX12_image_116 (by decide) ?_
                    exact ih63 _ (by omega) (z59 + 1) _ _ _ _ (by omega) (by omega) (by omega) (fun zq uq ⟨mm1, mm2, mm4, hq⟩ => hk4 _ _ ⟨mm1, mm2, mm4 + 1, (u_d_X12_image_4 ⟨gI68.out, ⟨f66, ⟨z69, ghw71, ⟨z72, gz72.out, (Or.inr ⟨c73, ⟨z74, ghw76, ⟨z77, gz77.out, ⟨A78, ghw79, hq⟩⟩⟩⟩)⟩⟩⟩⟩)⟩) rfl hI (fr.trans (fr.trans (fr.rf) hj60 rfl rfl) hf80 rfl rfl) hP hS (lv_sub hl [0, 1, 2] rfl)
              exact L80_62 _ 0 _ _ _ _ (by omega) (by omega) (by omega) (fun zq uq ⟨mm1, mm2, mm4, hq⟩ => hk2 _ _ ⟨mm1, mm2 + 1, (u_d_X12_image_2 ⟨gI25.out, ⟨f23, ⟨z26, gz26.out, (Or.inr ⟨c27, ⟨z45, ghw47, ⟨z48, gz48.out, ⟨A49, ghw50, ⟨z52, ghw54, ⟨z55, gz55.out, ⟨A56, ghw57, ⟨mm4, hq⟩⟩⟩⟩⟩⟩⟩⟩)⟩⟩⟩)⟩) rfl hI (fr.rf) hP hS (lv_sub hl [0, 1, 2] rfl)
        have r_A4_0_84 : (0 : Int) ≤ (A4 0 84) ∧ (A4 0 84) ≤ 48 := hI 0 84
        exact L37_19 _ 0 _ _ _ _ (by omega) (by omega) (by omega) (fun zq uq ⟨mm1, mm2, hq⟩ => hk1 _ _ ⟨mm1 + 1, (u_d_X12_image_1 ⟨gI12.out, ⟨f10, ⟨z13, gz13.out, (Or.inl ⟨c14, ⟨mm2, hq⟩⟩)⟩⟩⟩)⟩) rfl hI (fr.rf) hP hS (lv_sub hl [0, 1] rfl)
      · have c14 : ¬ z13 ≤ z2 := mt (i_le (rb rz13 (by decide) (by decide)) (rb f10 (by decide) (by decide))).mpr c14
        refine lv_aload_n hx hb dX12_image_20 rfl (lv_at hl 1 rfl) ?_
        refine lv_aload_n hx hb dX12_image_21 rfl (lv_at hl 1 rfl) ?_
        refine lv_iload_n hx hb dX12_image_22 rfl (lv_at hl 0 rfl) ?_
        refine x_calli (As := [.int (iI z2)]) (rest := [.ref (q 0)]) ⟨hx, hb, hml, hown, hts⟩ (mc_X12_placeOf l dC dI cB cI cJ cZ cQ q _ z2 hI (by omega)) (cwV 1 hts (goodV (wl_in_5 _ (List.mem_of_getElem? (i := 35) rfl)) (wl_in_5 _ (List.mem_of_getElem? (i := 36) rfl)) (wl_in_5 _ (List.mem_of_getElem? (i := 37) rfl)) (wl_in_0 _ (List.mem_of_getElem? (i := 8) rfl)) (wl_in_5 _ (List.mem_of_getElem? (i := 25) rfl))) rfl rfl rfl (by decide +kernel) ⟨Nat.le_of_ble_eq_true rfl, Nat.le_of_ble_eq_true rfl⟩) hK hDD hA0 hP hS 0 12 wm0 rfl rfl hl.1 (Nat.le_of_ble_eq_true rfl) dX12_image_23 (fun z81 A82 H locs hw83 hP hS => ?_)
        obtain ⟨rfl, hw83⟩ := hw83
        have ghw83 : q_X12_placeOf z2 A4 z81 := hw83
        have hw83 := hw83.2
        have r_A4_0_84 : (0 : Int) ≤ (A4 0 84) ∧ (A4 0 84) ≤ 48 := hI 0 84
        refine x_callv (As := [.int (iI z81)]) (rest := []) ⟨hx, hb, hml, hown, hts⟩ (mc_X12_writes l dC dI cB cI cJ cZ cQ q _ z81 hI (rb hw83 (by decide) (by decide)) (by omega)) (cwV 1 hts (goodV (wl_in_8 _ (List.mem_of_getElem? (i := 40) rfl)) (wl_in_8 _ (List.mem_of_getElem? (i := 41) rfl)) (wl_in_8 _ (List.mem_of_getElem? (i := 42) rfl)) (wl_in_0 _ (List.mem_of_getElem? (i := 8) rfl)) (wl_in_8 _ (List.mem_of_getElem? (i := 36) rfl))) rfl rfl rfl (by decide +kernel) ⟨Nat.le_of_ble_eq_true rfl, Nat.le_of_ble_eq_true rfl⟩) hK hDD hA0 hP hS 0 12 wm0 rfl rfl hl.1 (Nat.le_of_ble_eq_true rfl) dX12_image_26 (fun A84 H locs hw85 hP hS => ?_)
        have ghw85 : q_X12_writes z81 A4 A84 := hw85
        obtain ⟨_, hI, hf86, hw85⟩ := hw85
        have r_A84_0_84 : (0 : Int) ≤ (A84 0 84) ∧ (A84 0 84) ≤ 48 := hI 0 84
        refine lv_iinc (v := iI (z2 + 1)) (lv' := [(1, .int (iI (z2 + 1))), (0, .ref (q 0))]) hx hb dX12_image_29 hl (k := 0) rfl (i_inc (by omega)) (by decide) rfl (fun ls hl => ?_)
        refine lv_goto (tgt := 7) hx hb dX12_image_32 (by decide) ?_
        exact ih7 _ (by omega) (z2 + 1) _ _ _ _ (by omega) (by omega) (by omega) (fun zq uq ⟨mm1, hq⟩ => hk1 _ _ ⟨mm1 + 1, (u_d_X12_image_1 ⟨gI12.out, ⟨f10, ⟨z13, gz13.out, (Or.inr ⟨c14, ⟨z81, ghw83, ⟨A84, ghw85, hq⟩⟩⟩)⟩⟩⟩)⟩) rfl hI (fr.trans (fr.trans (fr.rf) hj3 rfl rfl) hf86 rfl rfl) hP hS (lv_sub hl [0, 1] rfl)
  have e_A1_84 : A1 0 84 = 0 := by rw [hA1]; rfl
  exact L7_6 _ 0 _ _ _ _ (by omega) (by omega) (by omega) (fun zq uq ⟨mm1, hq⟩ => (u_r_X12_image ⟨A1, hA1, ⟨mm1, hq⟩⟩)) rfl hI (fr.rf) hP hS (lv_sub hl [0, 1] rfl)

abbrev tr_r_X12_octet (x1 : Int) (A : St) (z : Int) : Prop := (((x1 < 0) ∧ (z = (-1))) ∨ ((¬ x1 < 0) ∧ ((((A 0 84) ≤ x1) ∧ (z = (-1))) ∨ ((¬ (A 0 84) ≤ x1) ∧ (∃ z3 : Int, z3 = A 57 (x1).toNat ∧ (z = z3))))))
def r_X12_octet (x1 : Int) (A : St) (z : Int) : Prop := tr_r_X12_octet x1 A z
theorem u_r_X12_octet {x1 : Int} {A : St} {z : Int} (h : tr_r_X12_octet x1 A z) : r_X12_octet x1 A z := h
def q_X12_octet (x1 : Int) (A : St) (z : Int) : Prop := r_X12_octet x1 A z ∧ (-2147483648 ≤ z ∧ z ≤ 2147483647)
def ws_mc_X12_octet : List Cond := .code yX12_octet cX12_octet 2 (some .int) :: WX
set_option maxHeartbeats 4000000 in
set_option maxRecDepth 100000 in
theorem mc_X12_octet (l : Launch) (dC : Nat → ClassId) (dI : Nat → Nat → Nat) (cB cI cJ cZ cQ : ClassId) (q : Nat → Nat) (A : St) (x1 : Int) (hI : IM A) (hx1 : (-2147483648 : Int) ≤ x1 ∧ x1 ≤ 2147483647) : XMi l yX12_octet ws_mc_X12_octet ({ frames := 0, cells := 0, slots := 0, locals := 0 } : Room) (dC, dI) (tyA cB cI cJ cZ cQ) (WM cI cJ cZ q) A [.ref (q 0), .int (iI x1)] (fun z u => A = u ∧ r_X12_octet x1 A z ∧ (-2147483648 ≤ z ∧ z ≤ 2147483647)) := by
  refine x_meti (cc := cX12_octet) (maxL := 2) WM_adr (by decide +kernel) rfl (Nat.le_of_ble_eq_true rfl) (fun p e s m below meth c Q AS ls hx hb hml hown hts hK hDD hA0 hP hS hl RET => ?_)
  have hown : s.vm.findClass RX12 = some m.cls := hown
  have hl : lv_has ls 2 [(0, .ref (q 0)), (1, .int (iI x1))] := hl
  have hiX12 : ∀ w ∈ u_ws RX12 TX12 85, w ∈ ws_mc_X12_octet := fun w h => List.mem_cons_of_mem _ (wx_lay w h)
  obtain ⟨H, hHe⟩ : ∃ H : Heap, H = s.heap := ⟨_, rfl⟩
  rw [← hHe] at hP
  have hS : va_S AS s.heap H [] := by rw [hHe]; exact hS
  suffices hgo : ∀ locs : List Loc, va_S AS s.heap H locs → W p l e (headSpec ws_mc_X12_octet ({ frames := 0, cells := 0, slots := 0, locals := 0 } : Room)).room s m [.ref (q 0), .int (iI x1)].toArray below meth c H locs 0 0 Q (F0 m 0 ls []) by
    have := hgo [] hS
    rw [hHe] at this
    exact this
  clear hS hHe
  intro locs hS
  refine lv_iload_n hx hb dX12_octet_0 rfl (lv_at hl 1 rfl) ?_
  refine lv_if_lt (tgt := 21) hx hb dX12_octet_1 (by decide) (fun c1 => ?_) (fun c1 => ?_)
  · have c1 : x1 < 0 := (i_lt0 hx1).mp c1
    refine lv_iconst (v := iI (-1)) hx hb dX12_octet_21 (by decide +kernel) ?_
    exact RET (-1) _ _ _ _ _ ⟨rfl, (u_r_X12_octet (Or.inl ⟨c1, rfl⟩)), by omega⟩ hP hS dX12_octet_22
  · have c1 : ¬ x1 < 0 := mt (i_lt0 hx1).mpr c1
    refine lv_iload_n hx hb dX12_octet_4 rfl (lv_at hl 1 rfl) ?_
    refine lv_aload_n hx hb dX12_octet_5 rfl (lv_at hl 0 rfl) ?_
    refine va_get (D := (dC, dI)) (ci := 12) (v := .int (iI (A 0 84))) (C := RX12) (T := TX12) (N := 85) hx hb hts hiX12 hown hK hP 0 wm0 rfl 84 (by decide) (hts _ (List.mem_cons_of_mem _ (wl_in_8 _ (List.mem_of_getElem? (i := 38) rfl)))) (fun _ h9 => h9) rfl dX12_octet_6 ?_
    have r_A_0_84 : (0 : Int) ≤ (A 0 84) ∧ (A 0 84) ≤ 48 := hI 0 84
    refine lv_icmp_ge (tgt := 21) hx hb dX12_octet_9 (by decide) (fun c2 => ?_) (fun c2 => ?_)
    · have c2 : (A 0 84) ≤ x1 := (i_le (rb r_A_0_84 (by decide) (by decide)) hx1).mp c2
      refine lv_iconst (v := iI (-1)) hx hb dX12_octet_21 (by decide +kernel) ?_
      exact RET (-1) _ _ _ _ _ ⟨rfl, (u_r_X12_octet (Or.inr ⟨c1, (Or.inl ⟨c2, rfl⟩)⟩)), by omega⟩ hP hS dX12_octet_22
    · have c2 : ¬ (A 0 84) ≤ x1 := mt (i_le (rb r_A_0_84 (by decide) (by decide)) hx1).mpr c2
      refine lv_aload_n hx hb dX12_octet_12 rfl (lv_at hl 0 rfl) ?_
      refine va_get (D := (dC, dI)) (ci := 12) (v := .ref (q 57)) (C := RX12) (T := TX12) (N := 85) hx hb hts hiX12 hown hK hP 0 wm0 rfl 83 (by decide) (hts _ (List.mem_cons_of_mem _ (wl_in_8 _ (List.mem_of_getElem? (i := 37) rfl)))) (fun _ h9 => h9) rfl dX12_octet_13 ?_
      refine lv_iload_n hx hb dX12_octet_16 rfl (lv_at hl 1 rfl) ?_
      refine x_iald hx hb hK hP 57 1 wm57 rfl (by omega) (by decide) dX12_octet_17 (fun z3 hz3 => ?_)
      have rz3 : (-2147483648 : Int) ≤ z3 ∧ z3 ≤ 2147483647 := by rw [hz3]; exact hI 57 _
      have gz3 := Hd.mk hz3
      have hz3 : z3 = A 57 (x1).toNat := hz3
      refine lv_goto (tgt := 22) hx hb dX12_octet_18 (by decide) ?_
      exact RET z3 _ _ _ _ _ ⟨rfl, (u_r_X12_octet (Or.inr ⟨c1, (Or.inr ⟨c2, ⟨z3, gz3.out, rfl⟩⟩)⟩)), by omega⟩ hP hS dX12_octet_22

def ws_mc_X12_mayBeAt : List Cond := .code yX12_mayBeAt cX12_mayBeAt 2 (some .boolean) :: WX
set_option maxHeartbeats 4000000 in
set_option maxRecDepth 100000 in
theorem mc_X12_mayBeAt (l : Launch) (dC : Nat → ClassId) (dI : Nat → Nat → Nat) (cB cI cJ cZ cQ : ClassId) (q : Nat → Nat) (A : St) (x1 : Int) (hI : IM A) (hx1 : (-2147483648 : Int) ≤ x1 ∧ x1 ≤ 2147483647) : XMi l yX12_mayBeAt ws_mc_X12_mayBeAt ({ frames := 2, cells := 0, slots := 0, locals := 43 } : Room) (dC, dI) (tyA cB cI cJ cZ cQ) (WM cI cJ cZ q) A [.ref (q 0), .int (iI x1)] (fun z u => A = u ∧ (0 ≤ z ∧ z ≤ 1)) := by
  refine x_metz (cc := cX12_mayBeAt) (maxL := 2) WM_adr (by decide +kernel) rfl (Nat.le_of_ble_eq_true rfl) (fun z u h => h.2) (fun p e s m below meth c Q AS ls hx hb hml hown hts hK hDD hA0 hP hS hl RET => ?_)
  have hown : s.vm.findClass RX12 = some m.cls := hown
  have hl : lv_has ls 2 [(0, .ref (q 0)), (1, .int (iI x1))] := hl
  have hiX12 : ∀ w ∈ u_ws RX12 TX12 85, w ∈ ws_mc_X12_mayBeAt := fun w h => List.mem_cons_of_mem _ (wx_lay w h)
  obtain ⟨H, hHe⟩ : ∃ H : Heap, H = s.heap := ⟨_, rfl⟩
  rw [← hHe] at hP
  have hS : va_S AS s.heap H [] := by rw [hHe]; exact hS
  suffices hgo : ∀ locs : List Loc, va_S AS s.heap H locs → W p l e (headSpec ws_mc_X12_mayBeAt ({ frames := 2, cells := 0, slots := 0, locals := 43 } : Room)).room s m [.ref (q 0), .int (iI x1)].toArray below meth c H locs 0 0 Q (F0 m 0 ls []) by
    have := hgo [] hS
    rw [hHe] at this
    exact this
  clear hS hHe
  intro locs hS
  refine lv_iload_n hx hb dX12_mayBeAt_0 rfl (lv_at hl 1 rfl) ?_
  refine lv_bipush (v := iI 10) hx hb dX12_mayBeAt_1 (by decide +kernel) ?_
  refine lv_icmp_ge (tgt := 12) hx hb dX12_mayBeAt_3 (by decide) (fun c1 => ?_) (fun c1 => ?_)
  · have c1 : 10 ≤ x1 := (i_le ⟨by decide, by decide⟩ hx1).mp c1
    refine lv_iload_n hx hb dX12_mayBeAt_12 rfl (lv_at hl 1 rfl) ?_
    refine lv_bipush (v := iI 20) hx hb dX12_mayBeAt_13 (by decide +kernel) ?_
    refine lv_icmp_ge (tgt := 27) hx hb dX12_mayBeAt_15 (by decide) (fun c2 => ?_) (fun c2 => ?_)
    · have c2 : 20 ≤ x1 := (i_le ⟨by decide, by decide⟩ hx1).mp c2
      refine lv_iload_n hx hb dX12_mayBeAt_27 rfl (lv_at hl 1 rfl) ?_
      refine lv_bipush (v := iI 40) hx hb dX12_mayBeAt_28 (by decide +kernel) ?_
      refine lv_icmp_eq (tgt := 66) hx hb dX12_mayBeAt_30 (by decide) (fun c3 => ?_) (fun c3 => ?_)
      · have c3 : x1 = 40 := (i_eq hx1 ⟨by decide, by decide⟩).mp c3
        refine lv_iconst (v := iI 1) hx hb dX12_mayBeAt_66 (by decide +kernel) ?_
        refine lv_goto (tgt := 71) hx hb dX12_mayBeAt_67 (by decide) ?_
        exact RET 1 _ _ _ _ _ ⟨rfl, by omega⟩ hP hS dX12_mayBeAt_71
      · have c3 : ¬ x1 = 40 := mt (i_eq hx1 ⟨by decide, by decide⟩).mpr c3
        refine lv_iload_n hx hb dX12_mayBeAt_33 rfl (lv_at hl 1 rfl) ?_
        refine lv_bipush (v := iI 40) hx hb dX12_mayBeAt_34 (by decide +kernel) ?_
        refine lv_icmp_ge (tgt := 70) hx hb dX12_mayBeAt_36 (by decide) (fun c4 => ?_) (fun c4 => ?_)
        · have c4 : 40 ≤ x1 := (i_le ⟨by decide, by decide⟩ hx1).mp c4
          refine lv_iconst (v := iI 0) hx hb dX12_mayBeAt_70 (by decide +kernel) ?_
          exact RET 0 _ _ _ _ _ ⟨rfl, by omega⟩ hP hS dX12_mayBeAt_71
        · have c4 : ¬ 40 ≤ x1 := mt (i_le ⟨by decide, by decide⟩ hx1).mpr c4
          refine lv_aload_n hx hb dX12_mayBeAt_39 rfl (lv_at hl 0 rfl) ?_
          refine lv_iload_n hx hb dX12_mayBeAt_40 rfl (lv_at hl 1 rfl) ?_
          refine lv_bipush (v := iI 20) hx hb dX12_mayBeAt_41 (by decide +kernel) ?_
          refine x_subv (v := x1 - 20) hx hb dX12_mayBeAt_43 (by omega) ?_
          have r_A_0_12 : (0 : Int) ≤ (A 0 12) ∧ (A 0 12) ≤ 1 := hI 0 12
          refine x_calli (As := [.int (iI (x1 - 20))]) (rest := []) ⟨hx, hb, hml, hown, hts⟩ (mc_X12_isDoorB l dC dI cB cI cJ cZ cQ q _ (x1 - 20) hI (by omega)) (cwV 1 hts (goodV (wl_in_5 _ (List.mem_of_getElem? (i := 14) rfl)) (wl_in_5 _ (List.mem_of_getElem? (i := 15) rfl)) (wl_in_5 _ (List.mem_of_getElem? (i := 16) rfl)) (wl_in_0 _ (List.mem_of_getElem? (i := 8) rfl)) (wl_in_4 _ (List.mem_of_getElem? (i := 38) rfl))) rfl rfl rfl (by decide +kernel) ⟨Nat.le_of_ble_eq_true rfl, Nat.le_of_ble_eq_true rfl⟩) hK hDD hA0 hP hS 0 12 wm0 rfl rfl hl.1 (Nat.le_of_ble_eq_true rfl) dX12_mayBeAt_44 (fun z5 A6 H locs hw7 hP hS => ?_)
          obtain ⟨rfl, hw7⟩ := hw7
          have hw7 := hw7.2
          have rz5 : 0 ≤ z5 ∧ z5 ≤ 1 := hw7.1
          refine lv_if_eq (tgt := 70) hx hb dX12_mayBeAt_47 (by decide) (fun c8 => ?_) (fun c8 => ?_)
          · have c8 : z5 = 0 := (i_eq0 (rb rz5 (by decide) (by decide))).mp c8
            clear hw7
            refine lv_iconst (v := iI 0) hx hb dX12_mayBeAt_70 (by decide +kernel) ?_
            exact RET 0 _ _ _ _ _ ⟨rfl, by omega⟩ hP hS dX12_mayBeAt_71
          · have c8 : ¬ z5 = 0 := mt (i_eq0 (rb rz5 (by decide) (by decide))).mpr c8
            have hw7b := hw7.2.mp (by omega)
            clear hw7
            refine lv_aload_n hx hb dX12_mayBeAt_50 rfl (lv_at hl 0 rfl) ?_
            refine va_get (D := (dC, dI)) (ci := 12) (v := .ref (q 8)) (C := RX12) (T := TX12) (N := 85) hx hb hts hiX12 hown hK hP 0 wm0 rfl 19 (by decide) (hts _ (List.mem_cons_of_mem _ (wl_in_2 _ (List.mem_of_getElem? (i := 41) rfl)))) (fun _ h9 => h9) rfl dX12_mayBeAt_51 ?_
            refine lv_aload_n hx hb dX12_mayBeAt_54 rfl (lv_at hl 0 rfl) ?_
            refine lv_iload_n hx hb dX12_mayBeAt_55 rfl (lv_at hl 1 rfl) ?_
            refine lv_bipush (v := iI 20) hx hb dX12_mayBeAt_56 (by decide +kernel) ?_
            refine x_subv (v := x1 - 20) hx hb dX12_mayBeAt_58 (by omega) ?_
            refine x_calli (As := [.int (iI (x1 - 20))]) (rest := [.ref (q 8)]) ⟨hx, hb, hml, hown, hts⟩ (mc_X12_door10 l dC dI cB cI cJ cZ cQ q _ (x1 - 20) hI (by omega)) (cwV 1 hts (goodV (wl_in_4 _ (List.mem_of_getElem? (i := 49) rfl)) (wl_in_4 _ (List.mem_of_getElem? (i := 50) rfl)) (wl_in_4 _ (List.mem_of_getElem? (i := 51) rfl)) (wl_in_0 _ (List.mem_of_getElem? (i := 8) rfl)) (wl_in_4 _ (List.mem_of_getElem? (i := 42) rfl))) rfl rfl rfl (by decide +kernel) ⟨Nat.le_of_ble_eq_true rfl, Nat.le_of_ble_eq_true rfl⟩) hK hDD hA0 hP hS 0 12 wm0 rfl rfl hl.1 (Nat.le_of_ble_eq_true rfl) dX12_mayBeAt_59 (fun z9 A10 H locs hw11 hP hS => ?_)
            obtain ⟨rfl, hw11⟩ := hw11
            have hw11 := hw11.2
            refine tp_i (y := iI (10 * (A 0 12) + x1 - 20)) (congrArg iI (show z9 = 10 * (A 0 12) + x1 - 20 by omega)) ?_
            clear hw11
            refine x_zald hx hb hK hP 8 3 wm8 rfl (by omega) (by decide) dX12_mayBeAt_62 (fun z12 hz12 => ?_)
            have rz12 : (0 : Int) ≤ z12 ∧ z12 ≤ 1 := by rw [hz12]; exact hI 8 _
            have hz12 : z12 = A 8 (10 * (A 0 12) + x1 - 20).toNat := hz12
            refine lv_if_eq (tgt := 70) hx hb dX12_mayBeAt_63 (by decide) (fun c13 => ?_) (fun c13 => ?_)
            · have c13 : z12 = 0 := (i_eq0 (rb rz12 (by decide) (by decide))).mp c13
              refine lv_iconst (v := iI 0) hx hb dX12_mayBeAt_70 (by decide +kernel) ?_
              exact RET 0 _ _ _ _ _ ⟨rfl, by omega⟩ hP hS dX12_mayBeAt_71
            · have c13 : ¬ z12 = 0 := mt (i_eq0 (rb rz12 (by decide) (by decide))).mpr c13
              refine lv_iconst (v := iI 1) hx hb dX12_mayBeAt_66 (by decide +kernel) ?_
              refine lv_goto (tgt := 71) hx hb dX12_mayBeAt_67 (by decide) ?_
              exact RET 1 _ _ _ _ _ ⟨rfl, by omega⟩ hP hS dX12_mayBeAt_71
    · have c2 : ¬ 20 ≤ x1 := mt (i_le ⟨by decide, by decide⟩ hx1).mpr c2
      refine lv_aload_n hx hb dX12_mayBeAt_18 rfl (lv_at hl 0 rfl) ?_
      refine lv_iload_n hx hb dX12_mayBeAt_19 rfl (lv_at hl 1 rfl) ?_
      refine lv_bipush (v := iI 10) hx hb dX12_mayBeAt_20 (by decide +kernel) ?_
      refine x_subv (v := x1 - 10) hx hb dX12_mayBeAt_22 (by omega) ?_
      have r_A_0_12 : (0 : Int) ≤ (A 0 12) ∧ (A 0 12) ≤ 1 := hI 0 12
      refine x_calli (As := [.int (iI (x1 - 10))]) (rest := []) ⟨hx, hb, hml, hown, hts⟩ (mc_X12_isPlaceB l dC dI cB cI cJ cZ cQ q _ (x1 - 10) hI (by omega)) (cwV 1 hts (goodV (wl_in_7 _ (List.mem_of_getElem? (i := 27) rfl)) (wl_in_7 _ (List.mem_of_getElem? (i := 28) rfl)) (wl_in_7 _ (List.mem_of_getElem? (i := 29) rfl)) (wl_in_0 _ (List.mem_of_getElem? (i := 8) rfl)) (wl_in_4 _ (List.mem_of_getElem? (i := 37) rfl))) rfl rfl rfl (by decide +kernel) ⟨Nat.le_of_ble_eq_true rfl, Nat.le_of_ble_eq_true rfl⟩) hK hDD hA0 hP hS 0 12 wm0 rfl rfl hl.1 (Nat.le_of_ble_eq_true rfl) dX12_mayBeAt_23 (fun z14 A15 H locs hw16 hP hS => ?_)
      obtain ⟨rfl, hw16⟩ := hw16
      have hw16 := hw16.2
      have rz14 : 0 ≤ z14 ∧ z14 ≤ 1 := hw16.1
      exact RET z14 _ _ _ _ _ ⟨rfl, by omega⟩ hP hS dX12_mayBeAt_26
  · have c1 : ¬ 10 ≤ x1 := mt (i_le ⟨by decide, by decide⟩ hx1).mpr c1
    refine lv_aload_n hx hb dX12_mayBeAt_6 rfl (lv_at hl 0 rfl) ?_
    refine lv_iload_n hx hb dX12_mayBeAt_7 rfl (lv_at hl 1 rfl) ?_
    have r_A_0_12 : (0 : Int) ≤ (A 0 12) ∧ (A 0 12) ≤ 1 := hI 0 12
    refine x_calli (As := [.int (iI x1)]) (rest := []) ⟨hx, hb, hml, hown, hts⟩ (mc_X12_isPersonB l dC dI cB cI cJ cZ cQ q _ x1 hI hx1) (cwV 1 hts (goodV (wl_in_5 _ (List.mem_of_getElem? (i := 55) rfl)) (wl_in_5 _ (List.mem_of_getElem? (i := 56) rfl)) (wl_in_5 _ (List.mem_of_getElem? (i := 57) rfl)) (wl_in_0 _ (List.mem_of_getElem? (i := 8) rfl)) (wl_in_4 _ (List.mem_of_getElem? (i := 40) rfl))) rfl rfl rfl (by decide +kernel) ⟨Nat.le_of_ble_eq_true rfl, Nat.le_of_ble_eq_true rfl⟩) hK hDD hA0 hP hS 0 12 wm0 rfl rfl hl.1 (Nat.le_of_ble_eq_true rfl) dX12_mayBeAt_8 (fun z17 A18 H locs hw19 hP hS => ?_)
    obtain ⟨rfl, hw19⟩ := hw19
    have hw19 := hw19.2
    have rz17 : 0 ≤ z17 ∧ z17 ≤ 1 := hw19.1
    exact RET z17 _ _ _ _ _ ⟨rfl, by omega⟩ hP hS dX12_mayBeAt_11

def ws_mc_X12_isRowAt : List Cond := .code yX12_isRowAt cX12_isRowAt 5 (some .boolean) :: WX
set_option maxHeartbeats 4000000 in
set_option maxRecDepth 100000 in
theorem mc_X12_isRowAt (l : Launch) (dC : Nat → ClassId) (dI : Nat → Nat → Nat) (cB cI cJ cZ cQ : ClassId) (q : Nat → Nat) (A : St) (x1 x2 : Int) (hI : IM A) (hx1 : (0 : Int) ≤ x1 ∧ x1 ≤ 1600) (hx2 : (0 : Int) ≤ x2 ∧ x2 ≤ 6) : XMi l yX12_isRowAt ws_mc_X12_isRowAt ({ frames := 2, cells := 0, slots := 0, locals := 43 } : Room) (dC, dI) (tyA cB cI cJ cZ cQ) (WM cI cJ cZ q) A [.ref (q 0), .int (iI x1), .int (iI x2)] (fun z u => A = u ∧ (0 ≤ z ∧ z ≤ 1)) := by
  refine x_metz (cc := cX12_isRowAt) (maxL := 5) WM_adr (by decide +kernel) rfl (Nat.le_of_ble_eq_true rfl) (fun z u h => h.2) (fun p e s m below meth c Q AS ls hx hb hml hown hts hK hDD hA0 hP hS hl RET => ?_)
  have hown : s.vm.findClass RX12 = some m.cls := hown
  have hl : lv_has ls 5 [(0, .ref (q 0)), (1, .int (iI x1)), (2, .int (iI x2))] := hl
  have hiX12 : ∀ w ∈ u_ws RX12 TX12 85, w ∈ ws_mc_X12_isRowAt := fun w h => List.mem_cons_of_mem _ (wx_lay w h)
  obtain ⟨H, hHe⟩ : ∃ H : Heap, H = s.heap := ⟨_, rfl⟩
  rw [← hHe] at hP
  have hS : va_S AS s.heap H [] := by rw [hHe]; exact hS
  suffices hgo : ∀ locs : List Loc, va_S AS s.heap H locs → W p l e (headSpec ws_mc_X12_isRowAt ({ frames := 2, cells := 0, slots := 0, locals := 43 } : Room)).room s m [.ref (q 0), .int (iI x1), .int (iI x2)].toArray below meth c H locs 0 0 Q (F0 m 0 ls []) by
    have := hgo [] hS
    rw [hHe] at this
    exact this
  clear hS hHe
  intro locs hS
  refine lv_iconst (v := iI 0) hx hb dX12_isRowAt_0 (by decide +kernel) ?_
  refine lv_istore_n (lv' := [(3, .int (iI 0)), (0, .ref (q 0)), (1, .int (iI x1)), (2, .int (iI x2))]) hx hb dX12_isRowAt_1 rfl hl (by decide) rfl (fun ls hl => ?_)
  have L2_3 : ∀ (n5 : Nat) (z1 : Int) (H : Heap) (locs : List Loc) (ls : Array Slot), (0 ≤ z1) → (0 ≤ z1 ∧ z1 ≤ 2147483647) → ((x2 - z1 + 1).toNat = n5) → va_P (dC, dI) vwCl (WM cI cJ cZ q A) H → va_S AS s.heap H locs → lv_has ls 5 [(3, .int (iI z1)), (0, .ref (q 0)), (1, .int (iI x1)), (2, .int (iI x2))] → W p l e (headSpec ws_mc_X12_isRowAt ({ frames := 2, cells := 0, slots := 0, locals := 43 } : Room)).room s m [.ref (q 0), .int (iI x1), .int (iI x2)].toArray below meth c H locs 0 0 Q (F0 m 2 ls []) := by
    intro n5
    induction n5 using Nat.strongRecOn with
    | ind n5 ih4 =>
      intro z1 H locs ls f6 f7 hn5 hP hS hl
      refine lv_iload_n hx hb dX12_isRowAt_2 rfl (lv_at hl 0 rfl) ?_
      refine lv_iload_n hx hb dX12_isRowAt_3 rfl (lv_at hl 3 rfl) ?_
      refine lv_icmp_ge (tgt := 67) hx hb dX12_isRowAt_4 (by decide) (fun c8 => ?_) (fun c8 => ?_)
      · have c8 : x2 ≤ z1 := (i_le (rb hx2 (by decide) (by decide)) (rb f7 (by decide) (by decide))).mp c8
        refine lv_iconst (v := iI 1) hx hb dX12_isRowAt_67 (by decide +kernel) ?_
        exact RET 1 _ _ _ _ _ ⟨rfl, by omega⟩ hP hS dX12_isRowAt_68
      · have c8 : ¬ x2 ≤ z1 := mt (i_le (rb hx2 (by decide) (by decide)) (rb f7 (by decide) (by decide))).mpr c8
        refine lv_aload_n hx hb dX12_isRowAt_7 rfl (lv_at hl 1 rfl) ?_
        refine lv_aload_n hx hb dX12_isRowAt_8 rfl (lv_at hl 1 rfl) ?_
        refine va_get (D := (dC, dI)) (ci := 12) (v := .ref (q 1)) (C := RX12) (T := TX12) (N := 85) hx hb hts hiX12 hown hK hP 0 wm0 rfl 0 (by decide) (hts _ (List.mem_cons_of_mem _ (wl_in_0 _ (List.mem_of_getElem? (i := 2) rfl)))) (fun _ h9 => h9) rfl dX12_isRowAt_9 ?_
        refine lv_iload_n hx hb dX12_isRowAt_12 rfl (lv_at hl 2 rfl) ?_
        refine lv_iload_n hx hb dX12_isRowAt_13 rfl (lv_at hl 0 rfl) ?_
        refine x_addv (v := x1 + z1) hx hb dX12_isRowAt_14 (by omega) ?_
        refine x_iald hx hb hK hP 1 1 wm1 rfl (by omega) (by decide) dX12_isRowAt_15 (fun z9 hz9 => ?_)
        have rz9 : (0 : Int) ≤ z9 ∧ z9 ≤ 255 := by rw [hz9]; exact hI 1 _
        have hz9 : z9 = A 1 (x1 + z1).toNat := hz9
        have r_A_0_12 : (0 : Int) ≤ (A 0 12) ∧ (A 0 12) ≤ 1 := hI 0 12
        refine x_calli (As := [.int (iI z9)]) (rest := []) ⟨hx, hb, hml, hown, hts⟩ (mc_X12_isDoorB l dC dI cB cI cJ cZ cQ q _ z9 hI (rb rz9 (by decide) (by decide))) (cwV 1 hts (goodV (wl_in_5 _ (List.mem_of_getElem? (i := 14) rfl)) (wl_in_5 _ (List.mem_of_getElem? (i := 15) rfl)) (wl_in_5 _ (List.mem_of_getElem? (i := 16) rfl)) (wl_in_0 _ (List.mem_of_getElem? (i := 8) rfl)) (wl_in_4 _ (List.mem_of_getElem? (i := 38) rfl))) rfl rfl rfl (by decide +kernel) ⟨Nat.le_of_ble_eq_true rfl, Nat.le_of_ble_eq_true rfl⟩) hK hDD hA0 hP hS 0 12 wm0 rfl rfl hl.1 (Nat.le_of_ble_eq_true rfl) dX12_isRowAt_16 (fun z10 A11 H locs hw12 hP hS => ?_)
        obtain ⟨rfl, hw12⟩ := hw12
        have hw12 := hw12.2
        have rz10 : 0 ≤ z10 ∧ z10 ≤ 1 := hw12.1
        refine lv_if_ne (tgt := 24) hx hb dX12_isRowAt_19 (by decide) (fun c13 => ?_) (fun c13 => ?_)
        · have c13 : ¬ z10 = 0 := mt (i_eq0 (rb rz10 (by decide) (by decide))).mpr c13
          have hw12b := hw12.2.mp (by omega)
          clear hw12
          refine lv_iconst (v := iI 0) hx hb dX12_isRowAt_24 (by decide +kernel) ?_
          refine lv_istore (lv' := [(4, .int (iI 0)), (3, .int (iI z1)), (0, .ref (q 0)), (1, .int (iI x1)), (2, .int (iI x2))]) hx hb dX12_isRowAt_25 hl (by decide) rfl (fun ls hl => ?_)
          have L27_16 : ∀ (n18 : Nat) (z14 : Int) (H : Heap) (locs : List Loc) (ls : Array Slot), (0 ≤ z14) → (0 ≤ z14 ∧ z14 ≤ 2147483647) → ((z1 - z14 + 1).toNat = n18) → va_P (dC, dI) vwCl (WM cI cJ cZ q A) H → va_S AS s.heap H locs → lv_has ls 5 [(4, .int (iI z14)), (3, .int (iI z1)), (0, .ref (q 0)), (1, .int (iI x1)), (2, .int (iI x2))] → W p l e (headSpec ws_mc_X12_isRowAt ({ frames := 2, cells := 0, slots := 0, locals := 43 } : Room)).room s m [.ref (q 0), .int (iI x1), .int (iI x2)].toArray below meth c H locs 0 0 Q (F0 m 27 ls []) := by
            intro n18
            induction n18 using Nat.strongRecOn with
            | ind n18 ih17 =>
              intro z14 H locs ls f19 f20 hn18 hP hS hl
              refine lv_iload hx hb dX12_isRowAt_27 (lv_at hl 0 rfl) ?_
              refine lv_iload_n hx hb dX12_isRowAt_29 rfl (lv_at hl 1 rfl) ?_
              refine lv_icmp_ge (tgt := 61) hx hb dX12_isRowAt_30 (by decide) (fun c21 => ?_) (fun c21 => ?_)
              · have c21 : z1 ≤ z14 := (i_le (rb f7 (by decide) (by decide)) (rb f20 (by decide) (by decide))).mp c21
                refine lv_iinc (v := iI (z1 + 1)) (lv' := [(3, .int (iI (z1 + 1))), (4, .int (iI z14)), (0, .ref (q 0)), (1, .int (iI x1)), (2, .int (iI x2))]) hx hb dX12_isRowAt_61 hl (k := 1) rfl (i_inc (by omega)) (by decide) rfl (fun ls hl => ?_)
                refine lv_goto (tgt := 2) hx hb dX12_isRowAt_64 (by decide) ?_
                exact ih4 _ (by omega) (z1 + 1) _ _ _ (by omega) (by omega) rfl hP hS (lv_sub hl [0, 2, 3, 4] rfl)
              · have c21 : ¬ z1 ≤ z14 := mt (i_le (rb f7 (by decide) (by decide)) (rb f20 (by decide) (by decide))).mpr c21
                refine lv_aload_n hx hb dX12_isRowAt_33 rfl (lv_at hl 2 rfl) ?_
                refine va_get (D := (dC, dI)) (ci := 12) (v := .ref (q 1)) (C := RX12) (T := TX12) (N := 85) hx hb hts hiX12 hown hK hP 0 wm0 rfl 0 (by decide) (hts _ (List.mem_cons_of_mem _ (wl_in_0 _ (List.mem_of_getElem? (i := 2) rfl)))) (fun _ h9 => h9) rfl dX12_isRowAt_34 ?_
                refine lv_iload_n hx hb dX12_isRowAt_37 rfl (lv_at hl 3 rfl) ?_
                refine lv_iload hx hb dX12_isRowAt_38 (lv_at hl 0 rfl) ?_
                refine x_addv (v := x1 + z14) hx hb dX12_isRowAt_40 (by omega) ?_
                refine x_iald hx hb hK hP 1 1 wm1 rfl (by omega) (by decide) dX12_isRowAt_41 (fun z22 hz22 => ?_)
                have rz22 : (0 : Int) ≤ z22 ∧ z22 ≤ 255 := by rw [hz22]; exact hI 1 _
                have hz22 : z22 = A 1 (x1 + z14).toNat := hz22
                refine lv_aload_n hx hb dX12_isRowAt_42 rfl (lv_at hl 2 rfl) ?_
                refine va_get (D := (dC, dI)) (ci := 12) (v := .ref (q 1)) (C := RX12) (T := TX12) (N := 85) hx hb hts hiX12 hown hK hP 0 wm0 rfl 0 (by decide) (hts _ (List.mem_cons_of_mem _ (wl_in_0 _ (List.mem_of_getElem? (i := 2) rfl)))) (fun _ h9 => h9) rfl dX12_isRowAt_43 ?_
                refine lv_iload_n hx hb dX12_isRowAt_46 rfl (lv_at hl 3 rfl) ?_
                refine lv_iload_n hx hb dX12_isRowAt_47 rfl (lv_at hl 1 rfl) ?_
                refine x_addv (v := x1 + z1) hx hb dX12_isRowAt_48 (by omega) ?_
                refine x_iald hx hb hK hP 1 1 wm1 rfl (by omega) (by decide) dX12_isRowAt_49 (fun z23 hz23 => ?_)
                have rz23 : (0 : Int) ≤ z23 ∧ z23 ≤ 255 := by rw [hz23]; exact hI 1 _
                have hz23 : z23 = A 1 (x1 + z1).toNat := hz23
                have ez23 : z23 = z9 := hz23.trans hz9.symm
                refine lv_icmp_ne (tgt := 55) hx hb dX12_isRowAt_50 (by decide) (fun c24 => ?_) (fun c24 => ?_)
                · have c24 : ¬ z22 = z23 := mt (i_eq (rb rz22 (by decide) (by decide)) (rb rz23 (by decide) (by decide))).mpr c24
                  refine lv_iinc (v := iI (z14 + 1)) (lv' := [(4, .int (iI (z14 + 1))), (3, .int (iI z1)), (0, .ref (q 0)), (1, .int (iI x1)), (2, .int (iI x2))]) hx hb dX12_isRowAt_55 hl (k := 0) rfl (i_inc (by omega)) (by decide) rfl (fun ls hl => ?_)
                  refine lv_goto (tgt := 27) hx hb dX12_isRowAt_58 (by decide) ?_
                  exact ih17 _ (by omega) (z14 + 1) _ _ _ (by omega) (by omega) rfl hP hS (lv_sub hl [0, 1, 2, 3, 4] rfl)
                · have c24 : z22 = z23 := (i_eq (rb rz22 (by decide) (by decide)) (rb rz23 (by decide) (by decide))).mp c24
                  refine lv_iconst (v := iI 0) hx hb dX12_isRowAt_53 (by decide +kernel) ?_
                  exact RET 0 _ _ _ _ _ ⟨rfl, by omega⟩ hP hS dX12_isRowAt_54
          exact L27_16 _ 0 _ _ _ (by omega) (by omega) rfl hP hS (lv_sub hl [0, 1, 2, 3, 4] rfl)
        · have c13 : z10 = 0 := (i_eq0 (rb rz10 (by decide) (by decide))).mp c13
          clear hw12
          refine lv_iconst (v := iI 0) hx hb dX12_isRowAt_22 (by decide +kernel) ?_
          exact RET 0 _ _ _ _ _ ⟨rfl, by omega⟩ hP hS dX12_isRowAt_23
  exact L2_3 _ 0 _ _ _ (by omega) (by omega) rfl hP hS (lv_sub hl [0, 1, 2, 3] rfl)

def ws_mc_X12_isWhole : List Cond := .code yX12_isWhole cX12_isWhole 6 (some .boolean) :: WX
set_option maxHeartbeats 4000000 in
set_option maxRecDepth 100000 in
theorem mc_X12_isWhole (l : Launch) (dC : Nat → ClassId) (dI : Nat → Nat → Nat) (cB cI cJ cZ cQ : ClassId) (q : Nat → Nat) (A : St) (x1 : Int) (hI : IM A) (hx1 : (0 : Int) ≤ x1 ∧ x1 ≤ 1600) : XMi l yX12_isWhole ws_mc_X12_isWhole ({ frames := 3, cells := 0, slots := 0, locals := 67 } : Room) (dC, dI) (tyA cB cI cJ cZ cQ) (WM cI cJ cZ q) A [.ref (q 0), .int (iI x1)] (fun z u => A = u ∧ (0 ≤ z ∧ z ≤ 1)) := by
  refine x_metz (cc := cX12_isWhole) (maxL := 6) WM_adr (by decide +kernel) rfl (Nat.le_of_ble_eq_true rfl) (fun z u h => h.2) (fun p e s m below meth c Q AS ls hx hb hml hown hts hK hDD hA0 hP hS hl RET => ?_)
  have hown : s.vm.findClass RX12 = some m.cls := hown
  have hl : lv_has ls 6 [(0, .ref (q 0)), (1, .int (iI x1))] := hl
  have hiX12 : ∀ w ∈ u_ws RX12 TX12 85, w ∈ ws_mc_X12_isWhole := fun w h => List.mem_cons_of_mem _ (wx_lay w h)
  obtain ⟨H, hHe⟩ : ∃ H : Heap, H = s.heap := ⟨_, rfl⟩
  rw [← hHe] at hP
  have hS : va_S AS s.heap H [] := by rw [hHe]; exact hS
  suffices hgo : ∀ locs : List Loc, va_S AS s.heap H locs → W p l e (headSpec ws_mc_X12_isWhole ({ frames := 3, cells := 0, slots := 0, locals := 67 } : Room)).room s m [.ref (q 0), .int (iI x1)].toArray below meth c H locs 0 0 Q (F0 m 0 ls []) by
    have := hgo [] hS
    rw [hHe] at this
    exact this
  clear hS hHe
  intro locs hS
  refine lv_iload_n hx hb dX12_isWhole_0 rfl (lv_at hl 1 rfl) ?_
  refine lv_iconst (v := iI 1) hx hb dX12_isWhole_1 (by decide +kernel) ?_
  refine lv_icmp_ge (tgt := 7) hx hb dX12_isWhole_2 (by decide) (fun c1 => ?_) (fun c1 => ?_)
  · have c1 : 1 ≤ x1 := (i_le ⟨by decide, by decide⟩ (rb hx1 (by decide) (by decide))).mp c1
    refine lv_bipush (v := iI 19) hx hb dX12_isWhole_7 (by decide +kernel) ?_
    refine lv_istore_n (lv' := [(2, .int (iI 19)), (0, .ref (q 0)), (1, .int (iI x1))]) hx hb dX12_isWhole_9 rfl hl (by decide) rfl (fun ls hl => ?_)
    refine lv_iconst (v := iI 0) hx hb dX12_isWhole_10 (by decide +kernel) ?_
    refine lv_istore_n (lv' := [(3, .int (iI 0)), (2, .int (iI 19)), (0, .ref (q 0)), (1, .int (iI x1))]) hx hb dX12_isWhole_11 rfl hl (by decide) rfl (fun ls hl => ?_)
    have L12_5 : ∀ (n7 : Nat) (z2 z3 : Int) (H : Heap) (locs : List Loc) (ls : Array Slot), (0 ≤ z2) → (0 ≤ z2 ∧ z2 ≤ 2147483647) → (0 ≤ z3 ∧ z3 ≤ 232) → ((x1 - 1 - z2 + 1).toNat = n7) → va_P (dC, dI) vwCl (WM cI cJ cZ q A) H → va_S AS s.heap H locs → lv_has ls 6 [(3, .int (iI z2)), (2, .int (iI z3)), (0, .ref (q 0)), (1, .int (iI x1))] → W p l e (headSpec ws_mc_X12_isWhole ({ frames := 3, cells := 0, slots := 0, locals := 67 } : Room)).room s m [.ref (q 0), .int (iI x1)].toArray below meth c H locs 0 0 Q (F0 m 12 ls []) := by
      intro n7
      induction n7 using Nat.strongRecOn with
      | ind n7 ih6 =>
        intro z2 z3 H locs ls f8 f9 f10 hn7 hP hS hl
        refine lv_iload_n hx hb dX12_isWhole_12 rfl (lv_at hl 0 rfl) ?_
        refine lv_iload_n hx hb dX12_isWhole_13 rfl (lv_at hl 3 rfl) ?_
        refine lv_iconst (v := iI 1) hx hb dX12_isWhole_14 (by decide +kernel) ?_
        refine x_subv (v := x1 - 1) hx hb dX12_isWhole_15 (by omega) ?_
        refine lv_icmp_ge (tgt := 40) hx hb dX12_isWhole_16 (by decide) (fun c11 => ?_) (fun c11 => ?_)
        · have c11 : x1 - 1 ≤ z2 := (i_le (by omega) (rb f9 (by decide) (by decide))).mp c11
          refine lv_aload_n hx hb dX12_isWhole_40 rfl (lv_at hl 2 rfl) ?_
          refine va_get (D := (dC, dI)) (ci := 12) (v := .ref (q 1)) (C := RX12) (T := TX12) (N := 85) hx hb hts hiX12 hown hK hP 0 wm0 rfl 0 (by decide) (hts _ (List.mem_cons_of_mem _ (wl_in_0 _ (List.mem_of_getElem? (i := 2) rfl)))) (fun _ h9 => h9) rfl dX12_isWhole_41 ?_
          refine lv_iload_n hx hb dX12_isWhole_44 rfl (lv_at hl 3 rfl) ?_
          refine lv_iconst (v := iI 1) hx hb dX12_isWhole_45 (by decide +kernel) ?_
          refine x_subv (v := x1 - 1) hx hb dX12_isWhole_46 (by omega) ?_
          refine x_iald hx hb hK hP 1 1 wm1 rfl (by omega) (by decide) dX12_isWhole_47 (fun z12 hz12 => ?_)
          have rz12 : (0 : Int) ≤ z12 ∧ z12 ≤ 255 := by rw [hz12]; exact hI 1 _
          have hz12 : z12 = A 1 (x1 - 1).toNat := hz12
          refine lv_iload_n hx hb dX12_isWhole_48 rfl (lv_at hl 1 rfl) ?_
          refine lv_icmp_eq (tgt := 54) hx hb dX12_isWhole_49 (by decide) (fun c13 => ?_) (fun c13 => ?_)
          · have c13 : z12 = z3 := (i_eq (rb rz12 (by decide) (by decide)) (rb f10 (by decide) (by decide))).mp c13
            refine lv_aload_n hx hb dX12_isWhole_54 rfl (lv_at hl 2 rfl) ?_
            refine va_get (D := (dC, dI)) (ci := 12) (v := .ref (q 16)) (C := RX12) (T := TX12) (N := 85) hx hb hts hiX12 hown hK hP 0 wm0 rfl 27 (by decide) (hts _ (List.mem_cons_of_mem _ (wl_in_1 _ (List.mem_of_getElem? (i := 15) rfl)))) (fun _ h9 => h9) rfl dX12_isWhole_55 ?_
            refine lv_aload_n hx hb dX12_isWhole_58 rfl (lv_at hl 2 rfl) ?_
            refine va_get (D := (dC, dI)) (ci := 12) (v := .int (iI (A 0 12))) (C := RX12) (T := TX12) (N := 85) hx hb hts hiX12 hown hK hP 0 wm0 rfl 12 (by decide) (hts _ (List.mem_cons_of_mem _ (wl_in_4 _ (List.mem_of_getElem? (i := 14) rfl)))) (fun _ h9 => h9) rfl dX12_isWhole_59 ?_
            have r_A_0_12 : (0 : Int) ≤ (A 0 12) ∧ (A 0 12) ≤ 1 := hI 0 12
            refine x_iald hx hb hK hP 16 1 wm16 rfl (by omega) (by decide) dX12_isWhole_62 (fun z14 hz14 => ?_)
            have rz14 : (0 : Int) ≤ z14 ∧ z14 ≤ 3 := by rw [hz14]; exact hI 16 _
            have hz14 : z14 = A 16 ((A 0 12)).toNat := hz14
            refine lv_istore_n (lv' := [(3, .int (iI z14)), (2, .int (iI z3)), (0, .ref (q 0)), (1, .int (iI x1))]) hx hb dX12_isWhole_63 rfl hl (by decide) rfl (fun ls hl => ?_)
            refine lv_iconst (v := iI 0) hx hb dX12_isWhole_64 (by decide +kernel) ?_
            refine lv_istore (lv' := [(4, .int (iI 0)), (3, .int (iI z14)), (2, .int (iI z3)), (0, .ref (q 0)), (1, .int (iI x1))]) hx hb dX12_isWhole_65 hl (by decide) rfl (fun ls hl => ?_)
            have L67_18 : ∀ (n20 : Nat) (z15 : Int) (H : Heap) (locs : List Loc) (ls : Array Slot), (0 ≤ z15) → (0 ≤ z15 ∧ z15 ≤ 2147483647) → ((A 16 ((A 0 12)).toNat - z15 + 1).toNat = n20) → va_P (dC, dI) vwCl (WM cI cJ cZ q A) H → va_S AS s.heap H locs → lv_has ls 6 [(4, .int (iI z15)), (3, .int (iI z14)), (2, .int (iI z3)), (0, .ref (q 0)), (1, .int (iI x1))] → W p l e (headSpec ws_mc_X12_isWhole ({ frames := 3, cells := 0, slots := 0, locals := 67 } : Room)).room s m [.ref (q 0), .int (iI x1)].toArray below meth c H locs 0 0 Q (F0 m 67 ls []) := by
              intro n20
              induction n20 using Nat.strongRecOn with
              | ind n20 ih19 =>
                intro z15 H locs ls f21 f22 hn20 hP hS hl
                refine lv_iload hx hb dX12_isWhole_67 (lv_at hl 0 rfl) ?_
                refine lv_aload_n hx hb dX12_isWhole_69 rfl (lv_at hl 3 rfl) ?_
                refine va_get (D := (dC, dI)) (ci := 12) (v := .ref (q 16)) (C := RX12) (T := TX12) (N := 85) hx hb hts hiX12 hown hK hP 0 wm0 rfl 27 (by decide) (hts _ (List.mem_cons_of_mem _ (wl_in_1 _ (List.mem_of_getElem? (i := 15) rfl)))) (fun _ h9 => h9) rfl dX12_isWhole_70 ?_
                refine lv_aload_n hx hb dX12_isWhole_73 rfl (lv_at hl 3 rfl) ?_
                refine va_get (D := (dC, dI)) (ci := 12) (v := .int (iI (A 0 12))) (C := RX12) (T := TX12) (N := 85) hx hb hts hiX12 hown hK hP 0 wm0 rfl 12 (by decide) (hts _ (List.mem_cons_of_mem _ (wl_in_4 _ (List.mem_of_getElem? (i := 14) rfl)))) (fun _ h9 => h9) rfl dX12_isWhole_74 ?_
                refine x_iald hx hb hK hP 16 1 wm16 rfl (by omega) (by decide) dX12_isWhole_77 (fun z23 hz23 => ?_)
                have rz23 : (0 : Int) ≤ z23 ∧ z23 ≤ 3 := by rw [hz23]; exact hI 16 _
                have hz23 : z23 = A 16 ((A 0 12)).toNat := hz23
                have ez23 : z23 = z14 := hz23.trans hz14.symm
                refine lv_icmp_ge (tgt := 111) hx hb dX12_isWhole_78 (by decide) (fun c24 => ?_) (fun c24 => ?_)
                · have c24 : z23 ≤ z15 := (i_le (rb rz23 (by decide) (by decide)) (rb f22 (by decide) (by decide))).mp c24
                  refine lv_iconst (v := iI 0) hx hb dX12_isWhole_111 (by decide +kernel) ?_
                  refine lv_istore (lv' := [(4, .int (iI 0)), (3, .int (iI z14)), (2, .int (iI z3)), (0, .ref (q 0)), (1, .int (iI x1))]) hx hb dX12_isWhole_112 hl (by decide) rfl (fun ls hl => ?_)
                  have L114_29 : ∀ (n31 : Nat) (z25 z26 : Int) (H : Heap) (locs : List Loc) (ls : Array Slot), (0 ≤ z25) → (0 ≤ z25 ∧ z25 ≤ 2147483647) → (0 ≤ z26 ∧ z26 ≤ 1600) → ((A 11 ((A 0 12)).toNat - z25 + 1).toNat = n31) → va_P (dC, dI) vwCl (WM cI cJ cZ q A) H → va_S AS s.heap H locs → lv_has ls 6 [(4, .int (iI z25)), (3, .int (iI z26)), (2, .int (iI z3)), (0, .ref (q 0)), (1, .int (iI x1))] → W p l e (headSpec ws_mc_X12_isWhole ({ frames := 3, cells := 0, slots := 0, locals := 67 } : Room)).room s m [.ref (q 0), .int (iI x1)].toArray below meth c H locs 0 0 Q (F0 m 114 ls []) := by
                    intro n31
                    induction n31 using Nat.strongRecOn with
                    | ind n31 ih30 =>
                      intro z25 z26 H locs ls f32 f33 f34 hn31 hP hS hl
                      refine lv_iload hx hb dX12_isWhole_114 (lv_at hl 0 rfl) ?_
                      refine lv_aload_n hx hb dX12_isWhole_116 rfl (lv_at hl 3 rfl) ?_
                      refine va_get (D := (dC, dI)) (ci := 12) (v := .ref (q 11)) (C := RX12) (T := TX12) (N := 85) hx hb hts hiX12 hown hK hP 0 wm0 rfl 22 (by decide) (hts _ (List.mem_cons_of_mem _ (wl_in_1 _ (List.mem_of_getElem? (i := 14) rfl)))) (fun _ h9 => h9) rfl dX12_isWhole_117 ?_
                      refine lv_aload_n hx hb dX12_isWhole_120 rfl (lv_at hl 3 rfl) ?_
                      refine va_get (D := (dC, dI)) (ci := 12) (v := .int (iI (A 0 12))) (C := RX12) (T := TX12) (N := 85) hx hb hts hiX12 hown hK hP 0 wm0 rfl 12 (by decide) (hts _ (List.mem_cons_of_mem _ (wl_in_4 _ (List.mem_of_getElem? (i := 14) rfl)))) (fun _ h9 => h9) rfl dX12_isWhole_121 ?_
                      refine x_iald hx hb hK hP 11 1 wm11 rfl (by omega) (by decide) dX12_isWhole_124 (fun z35 hz35 => ?_)
                      have rz35 : (0 : Int) ≤ z35 ∧ z35 ≤ 4 := by rw [hz35]; exact hI 11 _
                      have hz35 : z35 = A 11 ((A 0 12)).toNat := hz35
                      refine lv_icmp_ge (tgt := 214) hx hb dX12_isWhole_125 (by decide) (fun c36 => ?_) (fun c36 => ?_)
                      · have c36 : z35 ≤ z25 := (i_le (rb rz35 (by decide) (by decide)) (rb f33 (by decide) (by decide))).mp c36
                        refine lv_iload_n hx hb dX12_isWhole_214 rfl (lv_at hl 1 rfl) ?_
                        refine lv_iload_n hx hb dX12_isWhole_215 rfl (lv_at hl 4 rfl) ?_
                        refine lv_iconst (v := iI 1) hx hb dX12_isWhole_216 (by decide +kernel) ?_
                        refine x_subv (v := x1 - 1) hx hb dX12_isWhole_217 (by omega) ?_
                        refine lv_icmp_ne (tgt := 225) hx hb dX12_isWhole_218 (by decide) (fun c37 => ?_) (fun c37 => ?_)
                        · have c37 : ¬ z26 = x1 - 1 := mt (i_eq (rb f34 (by decide) (by decide)) (by omega)).mpr c37
                          refine lv_iconst (v := iI 0) hx hb dX12_isWhole_225 (by decide +kernel) ?_
                          exact RET 0 _ _ _ _ _ ⟨rfl, by omega⟩ hP hS dX12_isWhole_226
                        · have c37 : z26 = x1 - 1 := (i_eq (rb f34 (by decide) (by decide)) (by omega)).mp c37
                          refine lv_iconst (v := iI 1) hx hb dX12_isWhole_221 (by decide +kernel) ?_
                          refine lv_goto (tgt := 226) hx hb dX12_isWhole_222 (by decide) ?_
                          exact RET 1 _ _ _ _ _ ⟨rfl, by omega⟩ hP hS dX12_isWhole_226
                      · have c36 : ¬ z35 ≤ z25 := mt (i_le (rb rz35 (by decide) (by decide)) (rb f33 (by decide) (by decide))).mpr c36
                        refine lv_iload_n hx hb dX12_isWhole_128 rfl (lv_at hl 1 rfl) ?_
                        refine lv_iconst (v := iI 2) hx hb dX12_isWhole_129 (by decide +kernel) ?_
                        refine x_addv (v := z26 + 2) hx hb dX12_isWhole_130 (by omega) ?_
                        refine lv_iload_n hx hb dX12_isWhole_131 rfl (lv_at hl 4 rfl) ?_
                        refine lv_iconst (v := iI 1) hx hb dX12_isWhole_132 (by decide +kernel) ?_
                        refine x_subv (v := x1 - 1) hx hb dX12_isWhole_133 (by omega) ?_
                        refine lv_icmp_gt (tgt := 163) hx hb dX12_isWhole_134 (by decide) (fun c38 => ?_) (fun c38 => ?_)
                        · have c38 : x1 - 1 < z26 + 2 := (i_lt (by omega) (by omega)).mp c38
                          refine lv_iconst (v := iI 0) hx hb dX12_isWhole_163 (by decide +kernel) ?_
                          exact RET 0 _ _ _ _ _ ⟨rfl, by omega⟩ hP hS dX12_isWhole_164
                        · have c38 : ¬ x1 - 1 < z26 + 2 := mt (i_lt (by omega) (by omega)).mpr c38
                          refine lv_aload_n hx hb dX12_isWhole_137 rfl (lv_at hl 3 rfl) ?_
                          refine lv_aload_n hx hb dX12_isWhole_138 rfl (lv_at hl 3 rfl) ?_
                          refine va_get (D := (dC, dI)) (ci := 12) (v := .ref (q 1)) (C := RX12) (T := TX12) (N := 85) hx hb hts hiX12 hown hK hP 0 wm0 rfl 0 (by decide) (hts _ (List.mem_cons_of_mem _ (wl_in_0 _ (List.mem_of_getElem? (i := 2) rfl)))) (fun _ h9 => h9) rfl dX12_isWhole_139 ?_
                          refine lv_iload_n hx hb dX12_isWhole_142 rfl (lv_at hl 1 rfl) ?_
                          refine x_iald hx hb hK hP 1 1 wm1 rfl (by omega) (by decide) dX12_isWhole_143 (fun z39 hz39 => ?_)
                          have rz39 : (0 : Int) ≤ z39 ∧ z39 ≤ 255 := by rw [hz39]; exact hI 1 _
                          have hz39 : z39 = A 1 (z26).toNat := hz39
                          refine x_calli (As := [.int (iI z39)]) (rest := []) ⟨hx, hb, hml, hown, hts⟩ (mc_X12_mayBeAt l dC dI cB cI cJ cZ cQ q _ z39 hI (rb rz39 (by decide) (by decide))) (cwV 1 hts (goodV (wl_in_8 _ (List.mem_of_getElem? (i := 47) rfl)) (wl_in_8 _ (List.mem_of_getElem? (i := 48) rfl)) (wl_in_8 _ (List.mem_of_getElem? (i := 49) rfl)) (wl_in_0 _ (List.mem_of_getElem? (i := 8) rfl)) (wl_in_8 _ (List.mem_of_getElem? (i := 44) rfl))) rfl rfl rfl (by decide +kernel) ⟨Nat.le_of_ble_eq_true rfl, Nat.le_of_ble_eq_true rfl⟩) hK hDD hA0 hP hS 0 12 wm0 rfl rfl hl.1 (Nat.le_of_ble_eq_true rfl) dX12_isWhole_144 (fun z40 A41 H locs hw42 hP hS => ?_)
                          obtain ⟨rfl, hw42⟩ := hw42
                          refine lv_if_eq (tgt := 163) hx hb dX12_isWhole_147 (by decide) (fun c43 => ?_) (fun c43 => ?_)
                          · have c43 : z40 = 0 := (i_eq0 (rb hw42 (by decide) (by decide))).mp c43
                            refine lv_iconst (v := iI 0) hx hb dX12_isWhole_163 (by decide +kernel) ?_
                            exact RET 0 _ _ _ _ _ ⟨rfl, by omega⟩ hP hS dX12_isWhole_164
                          · have c43 : ¬ z40 = 0 := mt (i_eq0 (rb hw42 (by decide) (by decide))).mpr c43
                            refine lv_aload_n hx hb dX12_isWhole_150 rfl (lv_at hl 3 rfl) ?_
                            refine va_get (D := (dC, dI)) (ci := 12) (v := .ref (q 1)) (C := RX12) (T := TX12) (N := 85) hx hb hts hiX12 hown hK hP 0 wm0 rfl 0 (by decide) (hts _ (List.mem_cons_of_mem _ (wl_in_0 _ (List.mem_of_getElem? (i := 2) rfl)))) (fun _ h9 => h9) rfl dX12_isWhole_151 ?_
                            refine lv_iload_n hx hb dX12_isWhole_154 rfl (lv_at hl 1 rfl) ?_
                            refine lv_iconst (v := iI 1) hx hb dX12_isWhole_155 (by decide +kernel) ?_
                            refine x_addv (v := z26 + 1) hx hb dX12_isWhole_156 (by omega) ?_
                            refine x_iald hx hb hK hP 1 1 wm1 rfl (by omega) (by decide) dX12_isWhole_157 (fun z44 hz44 => ?_)
                            have rz44 : (0 : Int) ≤ z44 ∧ z44 ≤ 255 := by rw [hz44]; exact hI 1 _
                            have hz44 : z44 = A 1 (z26 + 1).toNat := hz44
                            refine lv_bipush (v := iI 6) hx hb dX12_isWhole_158 (by decide +kernel) ?_
                            refine lv_icmp_le (tgt := 165) hx hb dX12_isWhole_160 (by decide) (fun c45 => ?_) (fun c45 => ?_)
                            · have c45 : z44 ≤ 6 := (i_le (rb rz44 (by decide) (by decide)) ⟨by decide, by decide⟩).mp c45
                              refine lv_aload_n hx hb dX12_isWhole_165 rfl (lv_at hl 3 rfl) ?_
                              refine va_get (D := (dC, dI)) (ci := 12) (v := .ref (q 1)) (C := RX12) (T := TX12) (N := 85) hx hb hts hiX12 hown hK hP 0 wm0 rfl 0 (by decide) (hts _ (List.mem_cons_of_mem _ (wl_in_0 _ (List.mem_of_getElem? (i := 2) rfl)))) (fun _ h9 => h9) rfl dX12_isWhole_166 ?_
                              refine lv_iload_n hx hb dX12_isWhole_169 rfl (lv_at hl 1 rfl) ?_
                              refine lv_iconst (v := iI 1) hx hb dX12_isWhole_170 (by decide +kernel) ?_
                              refine x_addv (v := z26 + 1) hx hb dX12_isWhole_171 (by omega) ?_
                              refine x_iald hx hb hK hP 1 1 wm1 rfl (by omega) (by decide) dX12_isWhole_172 (fun z46 hz46 => ?_)
                              have rz46 : (0 : Int) ≤ z46 ∧ z46 ≤ 255 := by rw [hz46]; exact hI 1 _
                              have hz46 : z46 = A 1 (z26 + 1).toNat := hz46
                              have ez46 : z46 = z44 := hz46.trans hz44.symm
                              refine lv_istore (lv' := [(5, .int (iI z46)), (4, .int (iI z25)), (3, .int (iI z26)), (2, .int (iI z3)), (0, .ref (q 0)), (1, .int (iI x1))]) hx hb dX12_isWhole_173 hl (by decide) rfl (fun ls hl => ?_)
                              refine lv_iload_n hx hb dX12_isWhole_175 rfl (lv_at hl 2 rfl) ?_
                              refine lv_iconst (v := iI 2) hx hb dX12_isWhole_176 (by decide +kernel) ?_
                              refine x_addv (v := z26 + 2) hx hb dX12_isWhole_177 (by omega) ?_
                              refine lv_iload hx hb dX12_isWhole_178 (lv_at hl 0 rfl) ?_
                              refine x_addv (v := z26 + z46 + 2) hx hb dX12_isWhole_180 (by omega) ?_
                              refine lv_iload_n hx hb dX12_isWhole_181 rfl (lv_at hl 5 rfl) ?_
                              refine lv_iconst (v := iI 1) hx hb dX12_isWhole_182 (by decide +kernel) ?_
                              refine x_subv (v := x1 - 1) hx hb dX12_isWhole_183 (by omega) ?_
                              refine lv_icmp_gt (tgt := 199) hx hb dX12_isWhole_184 (by decide) (fun c47 => ?_) (fun c47 => ?_)
                              · have c47 : x1 - 1 < z26 + z46 + 2 := (i_lt (by omega) (by omega)).mp c47
                                refine lv_iconst (v := iI 0) hx hb dX12_isWhole_199 (by decide +kernel) ?_
                                exact RET 0 _ _ _ _ _ ⟨rfl, by omega⟩ hP hS dX12_isWhole_200
                              · have c47 : ¬ x1 - 1 < z26 + z46 + 2 := mt (i_lt (by omega) (by omega)).mpr c47
                                refine lv_aload_n hx hb dX12_isWhole_187 rfl (lv_at hl 4 rfl) ?_
                                refine lv_iload_n hx hb dX12_isWhole_188 rfl (lv_at hl 2 rfl) ?_
                                refine lv_iconst (v := iI 2) hx hb dX12_isWhole_189 (by decide +kernel) ?_
                                refine x_addv (v := z26 + 2) hx hb dX12_isWhole_190 (by omega) ?_
                                refine lv_iload hx hb dX12_isWhole_191 (lv_at hl 0 rfl) ?_
                                refine x_calli (As := [.int (iI (z26 + 2)), .int (iI z46)]) (rest := []) ⟨hx, hb, hml, hown, hts⟩ (mc_X12_isRowAt l dC dI cB cI cJ cZ cQ q _ (z26 + 2) z46 hI (by omega) (by omega)) (cwV 2 hts (goodV (wl_in_8 _ (List.mem_of_getElem? (i := 50) rfl)) (wl_in_8 _ (List.mem_of_getElem? (i := 51) rfl)) (wl_in_8 _ (List.mem_of_getElem? (i := 52) rfl)) (wl_in_0 _ (List.mem_of_getElem? (i := 8) rfl)) (wl_in_8 _ (List.mem_of_getElem? (i := 45) rfl))) rfl rfl rfl (by decide +kernel) ⟨Nat.le_of_ble_eq_true rfl, Nat.le_of_ble_eq_true rfl⟩) hK hDD hA0 hP hS 0 12 wm0 rfl rfl hl.1 (Nat.le_of_ble_eq_true rfl) dX12_isWhole_193 (fun z48 A49 H locs hw50 hP hS => ?_)
                                obtain ⟨rfl, hw50⟩ := hw50
                                refine lv_if_ne (tgt := 201) hx hb dX12_isWhole_196 (by decide) (fun c51 => ?_) (fun c51 => ?_)
                                · have c51 : ¬ z48 = 0 := mt (i_eq0 (rb hw50 (by decide) (by decide))).mpr c51
                                  refine lv_iload_n hx hb dX12_isWhole_201 rfl (lv_at hl 2 rfl) ?_
                                  refine lv_iconst (v := iI 2) hx hb dX12_isWhole_202 (by decide +kernel) ?_
                                  refine lv_iload hx hb dX12_isWhole_203 (lv_at hl 0 rfl) ?_
                                  refine x_addv (v := z46 + 2) hx hb dX12_isWhole_205 (by omega) ?_
                                  refine x_addv (v := z26 + z46 + 2) hx hb dX12_isWhole_206 (by omega) ?_
                                  refine lv_istore_n (lv' := [(3, .int (iI (z26 + z46 + 2))), (5, .int (iI z46)), (4, .int (iI z25)), (2, .int (iI z3)), (0, .ref (q 0)), (1, .int (iI x1))]) hx hb dX12_isWhole_207 rfl hl (by decide) rfl (fun ls hl => ?_)
                                  refine lv_iinc (v := iI (z25 + 1)) (lv' := [(4, .int (iI (z25 + 1))), (3, .int (iI (z26 + z46 + 2))), (5, .int (iI z46)), (2, .int (iI z3)), (0, .ref (q 0)), (1, .int (iI x1))]) hx hb dX12_isWhole_208 hl (k := 2) rfl (i_inc (by omega)) (by decide) rfl (fun ls hl => ?_)
                                  refine lv_goto (tgt := 114) hx hb dX12_isWhole_211 (by decide) ?_
                                  exact ih30 _ (by omega) (z25 + 1) (z26 + z46 + 2) _ _ _ (by omega) (by omega) (by omega) rfl hP hS (lv_sub hl [0, 1, 3, 4, 5] rfl)
                                · have c51 : z48 = 0 := (i_eq0 (rb hw50 (by decide) (by decide))).mp c51
                                  refine lv_iconst (v := iI 0) hx hb dX12_isWhole_199 (by decide +kernel) ?_
                                  exact RET 0 _ _ _ _ _ ⟨rfl, by omega⟩ hP hS dX12_isWhole_200
                            · have c45 : ¬ z44 ≤ 6 := mt (i_le (rb rz44 (by decide) (by decide)) ⟨by decide, by decide⟩).mpr c45
                              refine lv_iconst (v := iI 0) hx hb dX12_isWhole_163 (by decide +kernel) ?_
                              exact RET 0 _ _ _ _ _ ⟨rfl, by omega⟩ hP hS dX12_isWhole_164
                  exact L114_29 _ 0 z14 _ _ _ (by omega) (by omega) (by omega) rfl hP hS (lv_sub hl [0, 1, 2, 3, 4] rfl)
                · have c24 : ¬ z23 ≤ z15 := mt (i_le (rb rz23 (by decide) (by decide)) (rb f22 (by decide) (by decide))).mpr c24
                  refine lv_iload hx hb dX12_isWhole_81 (lv_at hl 0 rfl) ?_
                  refine lv_iload_n hx hb dX12_isWhole_83 rfl (lv_at hl 4 rfl) ?_
                  refine lv_iconst (v := iI 1) hx hb dX12_isWhole_84 (by decide +kernel) ?_
                  refine x_subv (v := x1 - 1) hx hb dX12_isWhole_85 (by omega) ?_
                  refine lv_icmp_ge (tgt := 103) hx hb dX12_isWhole_86 (by decide) (fun c52 => ?_) (fun c52 => ?_)
                  · have c52 : x1 - 1 ≤ z15 := (i_le (by omega) (rb f22 (by decide) (by decide))).mp c52
                    refine lv_iconst (v := iI 0) hx hb dX12_isWhole_103 (by decide +kernel) ?_
                    exact RET 0 _ _ _ _ _ ⟨rfl, by omega⟩ hP hS dX12_isWhole_104
                  · have c52 : ¬ x1 - 1 ≤ z15 := mt (i_le (by omega) (rb f22 (by decide) (by decide))).mpr c52
                    refine lv_aload_n hx hb dX12_isWhole_89 rfl (lv_at hl 3 rfl) ?_
                    refine lv_aload_n hx hb dX12_isWhole_90 rfl (lv_at hl 3 rfl) ?_
                    refine va_get (D := (dC, dI)) (ci := 12) (v := .ref (q 1)) (C := RX12) (T := TX12) (N := 85) hx hb hts hiX12 hown hK hP 0 wm0 rfl 0 (by decide) (hts _ (List.mem_cons_of_mem _ (wl_in_0 _ (List.mem_of_getElem? (i := 2) rfl)))) (fun _ h9 => h9) rfl dX12_isWhole_91 ?_
                    refine lv_iload hx hb dX12_isWhole_94 (lv_at hl 0 rfl) ?_
                    refine x_iald hx hb hK hP 1 1 wm1 rfl (by omega) (by decide) dX12_isWhole_96 (fun z53 hz53 => ?_)
                    have rz53 : (0 : Int) ≤ z53 ∧ z53 ≤ 255 := by rw [hz53]; exact hI 1 _
                    have hz53 : z53 = A 1 (z15).toNat := hz53
                    refine x_calli (As := [.int (iI z53)]) (rest := []) ⟨hx, hb, hml, hown, hts⟩ (mc_X12_isPlaceB l dC dI cB cI cJ cZ cQ q _ z53 hI (rb rz53 (by decide) (by decide))) (cwV 1 hts (goodV (wl_in_7 _ (List.mem_of_getElem? (i := 27) rfl)) (wl_in_7 _ (List.mem_of_getElem? (i := 28) rfl)) (wl_in_7 _ (List.mem_of_getElem? (i := 29) rfl)) (wl_in_0 _ (List.mem_of_getElem? (i := 8) rfl)) (wl_in_4 _ (List.mem_of_getElem? (i := 37) rfl))) rfl rfl rfl (by decide +kernel) ⟨Nat.le_of_ble_eq_true rfl, Nat.le_of_ble_eq_true rfl⟩) hK hDD hA0 hP hS 0 12 wm0 rfl rfl hl.1 (Nat.le_of_ble_eq_true rfl) dX12_isWhole_97 (fun z54 A55 H locs hw56 hP hS => ?_)
                    obtain ⟨rfl, hw56⟩ := hw56
                    have hw56 := hw56.2
                    have rz54 : 0 ≤ z54 ∧ z54 ≤ 1 := hw56.1
                    refine lv_if_ne (tgt := 105) hx hb dX12_isWhole_100 (by decide) (fun c57 => ?_) (fun c57 => ?_)
                    · have c57 : ¬ z54 = 0 := mt (i_eq0 (rb rz54 (by decide) (by decide))).mpr c57
                      have hw56b := hw56.2.mp (by omega)
                      clear hw56
                      refine lv_iinc (v := iI (z15 + 1)) (lv' := [(4, .int (iI (z15 + 1))), (3, .int (iI z14)), (2, .int (iI z3)), (0, .ref (q 0)), (1, .int (iI x1))]) hx hb dX12_isWhole_105 hl (k := 0) rfl (i_inc (by omega)) (by decide) rfl (fun ls hl => ?_)
                      refine lv_goto (tgt := 67) hx hb dX12_isWhole_108 (by decide) ?_
                      exact ih19 _ (by omega) (z15 + 1) _ _ _ (by omega) (by omega) rfl hP hS (lv_sub hl [0, 1, 2, 3, 4] rfl)
                    · have c57 : z54 = 0 := (i_eq0 (rb rz54 (by decide) (by decide))).mp c57
                      clear hw56
                      refine lv_iconst (v := iI 0) hx hb dX12_isWhole_103 (by decide +kernel) ?_
                      exact RET 0 _ _ _ _ _ ⟨rfl, by omega⟩ hP hS dX12_isWhole_104
            exact L67_18 _ 0 _ _ _ (by omega) (by omega) rfl hP hS (lv_sub hl [0, 1, 2, 3, 4] rfl)
          · have c13 : ¬ z12 = z3 := mt (i_eq (rb rz12 (by decide) (by decide)) (rb f10 (by decide) (by decide))).mpr c13
            refine lv_iconst (v := iI 0) hx hb dX12_isWhole_52 (by decide +kernel) ?_
            exact RET 0 _ _ _ _ _ ⟨rfl, by omega⟩ hP hS dX12_isWhole_53
        · have c11 : ¬ x1 - 1 ≤ z2 := mt (i_le (by omega) (rb f9 (by decide) (by decide))).mpr c11
          refine lv_iconst (v := iI 3) hx hb dX12_isWhole_19 (by decide +kernel) ?_
          refine lv_iload_n hx hb dX12_isWhole_20 rfl (lv_at hl 1 rfl) ?_
          refine x_mulv (v := 3 * z3) hx hb dX12_isWhole_21 (by omega) ?_
          refine lv_aload_n hx hb dX12_isWhole_22 rfl (lv_at hl 2 rfl) ?_
          refine va_get (D := (dC, dI)) (ci := 12) (v := .ref (q 1)) (C := RX12) (T := TX12) (N := 85) hx hb hts hiX12 hown hK hP 0 wm0 rfl 0 (by decide) (hts _ (List.mem_cons_of_mem _ (wl_in_0 _ (List.mem_of_getElem? (i := 2) rfl)))) (fun _ h9 => h9) rfl dX12_isWhole_23 ?_
          refine lv_iload_n hx hb dX12_isWhole_26 rfl (lv_at hl 0 rfl) ?_
          refine x_iald hx hb hK hP 1 1 wm1 rfl (by omega) (by decide) dX12_isWhole_27 (fun z58 hz58 => ?_)
          have rz58 : (0 : Int) ≤ z58 ∧ z58 ≤ 255 := by rw [hz58]; exact hI 1 _
          have hz58 : z58 = A 1 (z2).toNat := hz58
          refine x_addv (v := 3 * z3 + z58) hx hb dX12_isWhole_28 (by omega) ?_
          refine lv_sipush (v := iI 233) hx hb dX12_isWhole_29 (by decide +kernel) ?_
          refine x_rem hx hb dX12_isWhole_32 (by omega) (by omega) (fun z59 hz59 hz59b => ?_)
          refine lv_istore_n (lv' := [(2, .int (iI z59)), (3, .int (iI z2)), (0, .ref (q 0)), (1, .int (iI x1))]) hx hb dX12_isWhole_33 rfl hl (by decide) rfl (fun ls hl => ?_)
          refine lv_iinc (v := iI (z2 + 1)) (lv' := [(3, .int (iI (z2 + 1))), (2, .int (iI z59)), (0, .ref (q 0)), (1, .int (iI x1))]) hx hb dX12_isWhole_34 hl (k := 1) rfl (i_inc (by omega)) (by decide) rfl (fun ls hl => ?_)
          refine lv_goto (tgt := 12) hx hb dX12_isWhole_37 (by decide) ?_
          exact ih6 _ (by omega) (z2 + 1) z59 _ _ _ (by omega) (by omega) (by omega) rfl hP hS (lv_sub hl [0, 1, 2, 3] rfl)
    exact L12_5 _ 0 19 _ _ _ (by omega) (by omega) (by omega) rfl hP hS (lv_sub hl [0, 1, 2, 3] rfl)
  · have c1 : ¬ 1 ≤ x1 := mt (i_le ⟨by decide, by decide⟩ (rb hx1 (by decide) (by decide))).mpr c1
    refine lv_iconst (v := iI 0) hx hb dX12_isWhole_5 (by decide +kernel) ?_
    exact RET 0 _ _ _ _ _ ⟨rfl, by omega⟩ hP hS dX12_isWhole_6

def ws_mc_X12_add : List Cond := .code yX12_add cX12_add 3 none :: WX
set_option maxHeartbeats 4000000 in
set_option maxRecDepth 100000 in
theorem mc_X12_add (l : Launch) (dC : Nat → ClassId) (dI : Nat → Nat → Nat) (cB cI cJ cZ cQ : ClassId) (q : Nat → Nat) (A : St) (x1 x2 : Int) (hI : IM A) (hx1 : (0 : Int) ≤ x1 ∧ x1 ≤ 22) (hx2 : (-2147483648 : Int) ≤ x2 ∧ x2 ≤ 2147483647) (hp0 : A 0 46 < 1600) : XMv l yX12_add ws_mc_X12_add ({ frames := 0, cells := 0, slots := 0, locals := 0 } : Room) (dC, dI) (tyA cB cI cJ cZ cQ) (WM cI cJ cZ q) A [.ref (q 0), .int (iI x1), .int (iI x2)] (fun u => IM u ∧ fr [33, 34] [46] A u ∧ (u 0 46 = A 0 46 + 1)) := by
  refine x_metv (cc := cX12_add) (maxL := 3) WM_adr (by decide +kernel) rfl (Nat.le_of_ble_eq_true rfl) (fun p e s m below meth c Q AS ls hx hb hml hown hts hK hDD hA0 hP hS hl RET => ?_)
  have hown : s.vm.findClass RX12 = some m.cls := hown
  have hl : lv_has ls 3 [(0, .ref (q 0)), (1, .int (iI x1)), (2, .int (iI x2))] := hl
  have hiX12 : ∀ w ∈ u_ws RX12 TX12 85, w ∈ ws_mc_X12_add := fun w h => List.mem_cons_of_mem _ (wx_lay w h)
  obtain ⟨H, hHe⟩ : ∃ H : Heap, H = s.heap := ⟨_, rfl⟩
  rw [← hHe] at hP
  have hS : va_S AS s.heap H [] := by rw [hHe]; exact hS
  suffices hgo : ∀ locs : List Loc, va_S AS s.heap H locs → W p l e (headSpec ws_mc_X12_add ({ frames := 0, cells := 0, slots := 0, locals := 0 } : Room)).room s m [.ref (q 0), .int (iI x1), .int (iI x2)].toArray below meth c H locs 0 0 Q (F0 m 0 ls []) by
    have := hgo [] hS
    rw [hHe] at this
    exact this
  clear hS hHe
  intro locs hS
  refine lv_aload_n hx hb dX12_add_0 rfl (lv_at hl 0 rfl) ?_
  refine va_get (D := (dC, dI)) (ci := 12) (v := .ref (q 33)) (C := RX12) (T := TX12) (N := 85) hx hb hts hiX12 hown hK hP 0 wm0 rfl 44 (by decide) (hts _ (List.mem_cons_of_mem _ (wl_in_1 _ (List.mem_of_getElem? (i := 30) rfl)))) (fun _ h9 => h9) rfl dX12_add_1 ?_
  refine lv_sipush (v := iI 1600) hx hb dX12_add_4 (by decide +kernel) ?_
  refine lv_aload_n hx hb dX12_add_7 rfl (lv_at hl 0 rfl) ?_
  refine va_get (D := (dC, dI)) (ci := 12) (v := .int (iI (A 0 47))) (C := RX12) (T := TX12) (N := 85) hx hb hts hiX12 hown hK hP 0 wm0 rfl 47 (by decide) (hts _ (List.mem_cons_of_mem _ (wl_in_1 _ (List.mem_of_getElem? (i := 12) rfl)))) (fun _ h9 => h9) rfl dX12_add_8 ?_
  have r_A_0_47 : (0 : Int) ≤ (A 0 47) ∧ (A 0 47) ≤ 1 := hI 0 47
  refine x_mulv (v := 1600 * (A 0 47)) hx hb dX12_add_11 (by omega) ?_
  refine lv_aload_n hx hb dX12_add_12 rfl (lv_at hl 0 rfl) ?_
  refine va_get (D := (dC, dI)) (ci := 12) (v := .int (iI (A 0 46))) (C := RX12) (T := TX12) (N := 85) hx hb hts hiX12 hown hK hP 0 wm0 rfl 46 (by decide) (hts _ (List.mem_cons_of_mem _ (wl_in_1 _ (List.mem_of_getElem? (i := 31) rfl)))) (fun _ h9 => h9) rfl dX12_add_13 ?_
  have r_A_0_46 : (0 : Int) ≤ (A 0 46) ∧ (A 0 46) ≤ 1600 := hI 0 46
  refine x_addv (v := 1600 * (A 0 47) + (A 0 46)) hx hb dX12_add_16 (by omega) ?_
  refine lv_iload_n hx hb dX12_add_17 rfl (lv_at hl 1 rfl) ?_
  refine x_iast hx hb hK hP hDD hS 33 1 wm33 rfl (by omega) (by decide) dX12_add_18 ws33 (fun H locs hP hS => ?_)
  have hI := hI.st (j := 33) (i := (1600 * (A 0 47) + (A 0 46)).toNat) (v := x1) (show (0 : Int) ≤ x1 ∧ x1 ≤ 22 from (by omega))
  refine lv_aload_n hx hb dX12_add_19 rfl (lv_at hl 0 rfl) ?_
  refine va_get (D := (dC, dI)) (ci := 12) (v := .ref (q 34)) (C := RX12) (T := TX12) (N := 85) hx hb hts hiX12 hown hK hP 0 wm0 rfl 45 (by decide) (hts _ (List.mem_cons_of_mem _ (wl_in_1 _ (List.mem_of_getElem? (i := 32) rfl)))) (fun _ h9 => h9) rfl dX12_add_20 ?_
  refine lv_sipush (v := iI 1600) hx hb dX12_add_23 (by decide +kernel) ?_
  refine lv_aload_n hx hb dX12_add_26 rfl (lv_at hl 0 rfl) ?_
  refine va_get (D := (dC, dI)) (ci := 12) (v := .int (iI (A 0 47))) (C := RX12) (T := TX12) (N := 85) hx hb hts hiX12 hown hK hP 0 wm0 rfl 47 (by decide) (hts _ (List.mem_cons_of_mem _ (wl_in_1 _ (List.mem_of_getElem? (i := 12) rfl)))) (fun _ h9 => h9) rfl dX12_add_27 ?_
  refine x_mulv (v := 1600 * (A 0 47)) hx hb dX12_add_30 (by omega) ?_
  refine lv_aload_n hx hb dX12_add_31 rfl (lv_at hl 0 rfl) ?_
  refine va_get (D := (dC, dI)) (ci := 12) (v := .int (iI (A 0 46))) (C := RX12) (T := TX12) (N := 85) hx hb hts hiX12 hown hK hP 0 wm0 rfl 46 (by decide) (hts _ (List.mem_cons_of_mem _ (wl_in_1 _ (List.mem_of_getElem? (i := 31) rfl)))) (fun _ h9 => h9) rfl dX12_add_32 ?_
  refine x_addv (v := 1600 * (A 0 47) + (A 0 46)) hx hb dX12_add_35 (by omega) ?_
  refine lv_iload_n hx hb dX12_add_36 rfl (lv_at hl 2 rfl) ?_
  refine x_iast hx hb hK hP hDD hS 34 1 wm34 rfl (by omega) (by decide) dX12_add_37 ws34 (fun H locs hP hS => ?_)
  have hI := hI.st (j := 34) (i := (1600 * (A 0 47) + (A 0 46)).toNat) (v := x2) (show (-2147483648 : Int) ≤ x2 ∧ x2 ≤ 2147483647 from (by omega))
  refine lv_aload_n hx hb dX12_add_38 rfl (lv_at hl 0 rfl) ?_
  refine lv_dup hx hb dX12_add_39 rfl ?_
  refine va_get (D := (dC, dI)) (ci := 12) (v := .int (iI (A 0 46))) (C := RX12) (T := TX12) (N := 85) hx hb hts hiX12 hown hK hP 0 wm0 rfl 46 (by decide) (hts _ (List.mem_cons_of_mem _ (wl_in_1 _ (List.mem_of_getElem? (i := 31) rfl)))) (fun _ h9 => h9) rfl dX12_add_40 ?_
  refine lv_iconst (v := iI 1) hx hb dX12_add_43 (by decide +kernel) ?_
  refine x_addv (v := (A 0 46) + 1) hx hb dX12_add_44 (by omega) ?_
  refine x_put (D := (dC, dI)) (ci := 12) (v := .int (iI ((A 0 46) + 1))) (ty := .int) (C := RX12) (T := TX12) (N := 85) hx hb hts hiX12 tyX12 tyX12_ok nmX12 hown hK hP hDD hS 0 wm0 rfl 46 (by decide) (hts _ (List.mem_cons_of_mem _ (wl_in_1 _ (List.mem_of_getElem? (i := 31) rfl)))) (fun _ h9 => h9) rfl (by decide +kernel) rfl rfl (Nat.le_of_ble_eq_true rfl) dX12_add_45 (wf46 (v := (A 0 46) + 1)) (fun H locs hP hS => ?_)
  have hI := hI.st (j := 0) (i := 46) (v := (A 0 46) + 1) (show (0 : Int) ≤ (A 0 46) + 1 ∧ (A 0 46) + 1 ≤ 1600 from (by omega))
  obtain ⟨A1, hA1⟩ : ∃ A1 : St, A1 = (stA (stA (stA A 33 (1600 * (A 0 47) + (A 0 46)).toNat x1) 34 (1600 * (A 0 47) + (A 0 46)).toNat x2) 0 46 ((A 0 46) + 1)) := ⟨_, rfl⟩
  rw [← hA1] at hP hI
  have e_A1_46 : A1 0 46 = (A 0 46) + 1 := by rw [hA1]; rfl
  exact RET _ _ _ _ _ ⟨hI, fr_def hA1 (fr.sf (fr.st (fr.st (fr.rf) (by decide) rfl) (by decide) rfl) rfl), by omega⟩ hP hS dX12_add_48

def ws_mc_X12_rank : List Cond := .code yX12_rank cX12_rank 1 (some .int) :: WX
set_option maxHeartbeats 4000000 in
set_option maxRecDepth 100000 in
theorem mc_X12_rank (l : Launch) (dC : Nat → ClassId) (dI : Nat → Nat → Nat) (cB cI cJ cZ cQ : ClassId) (q : Nat → Nat) (A : St) (x1 : Int) (hI : IM A) (hx1 : (-2147483648 : Int) ≤ x1 ∧ x1 ≤ 2147483647) : XMi l yX12_rank ws_mc_X12_rank ({ frames := 0, cells := 0, slots := 0, locals := 0 } : Room) (dC, dI) (tyA cB cI cJ cZ cQ) (WM cI cJ cZ q) A [.int (iI x1)] (fun z u => A = u ∧ (1 ≤ z ∧ z ≤ 6)) := by
  refine x_meti (cc := cX12_rank) (maxL := 1) WM_adr (by decide +kernel) rfl (Nat.le_of_ble_eq_true rfl) (fun p e s m below meth c Q AS ls hx hb hml hown hts hK hDD hA0 hP hS hl RET => ?_)
  have hown : s.vm.findClass RX12 = some m.cls := hown
  have hl : lv_has ls 1 [(0, .int (iI x1))] := hl
  obtain ⟨H, hHe⟩ : ∃ H : Heap, H = s.heap := ⟨_, rfl⟩
  rw [← hHe] at hP
  have hS : va_S AS s.heap H [] := by rw [hHe]; exact hS
  suffices hgo : ∀ locs : List Loc, va_S AS s.heap H locs → W p l e (headSpec ws_mc_X12_rank ({ frames := 0, cells := 0, slots := 0, locals := 0 } : Room)).room s m [.int (iI x1)].toArray below meth c H locs 0 0 Q (F0 m 0 ls []) by
    have := hgo [] hS
    rw [hHe] at this
    exact this
  clear hS hHe
  intro locs hS
  refine lv_iload_n hx hb dX12_rank_0 rfl (lv_at hl 0 rfl) ?_
  refine lv_bipush (v := iI 21) hx hb dX12_rank_1 (by decide +kernel) ?_
  refine lv_icmp_ne (tgt := 10) hx hb dX12_rank_3 (by decide) (fun c1 => ?_) (fun c1 => ?_)
  · have c1 : ¬ x1 = 21 := mt (i_eq hx1 ⟨by decide, by decide⟩).mpr c1
    refine lv_iload_n hx hb dX12_rank_10 rfl (lv_at hl 0 rfl) ?_
    refine lv_bipush (v := iI 20) hx hb dX12_rank_11 (by decide +kernel) ?_
    refine lv_icmp_ne (tgt := 20) hx hb dX12_rank_13 (by decide) (fun c2 => ?_) (fun c2 => ?_)
    · have c2 : ¬ x1 = 20 := mt (i_eq hx1 ⟨by decide, by decide⟩).mpr c2
      refine lv_iload_n hx hb dX12_rank_20 rfl (lv_at hl 0 rfl) ?_
      refine lv_bipush (v := iI 22) hx hb dX12_rank_21 (by decide +kernel) ?_
      refine lv_icmp_ne (tgt := 30) hx hb dX12_rank_23 (by decide) (fun c3 => ?_) (fun c3 => ?_)
      · have c3 : ¬ x1 = 22 := mt (i_eq hx1 ⟨by decide, by decide⟩).mpr c3
        refine lv_iload_n hx hb dX12_rank_30 rfl (lv_at hl 0 rfl) ?_
        refine lv_bipush (v := iI 17) hx hb dX12_rank_31 (by decide +kernel) ?_
        refine lv_icmp_eq (tgt := 48) hx hb dX12_rank_33 (by decide) (fun c4 => ?_) (fun c4 => ?_)
        · have c4 : x1 = 17 := (i_eq hx1 ⟨by decide, by decide⟩).mp c4
          refine lv_iconst (v := iI 4) hx hb dX12_rank_48 (by decide +kernel) ?_
          refine lv_goto (tgt := 70) hx hb dX12_rank_49 (by decide) ?_
          exact RET 4 _ _ _ _ _ ⟨rfl, by omega⟩ hP hS dX12_rank_70
        · have c4 : ¬ x1 = 17 := mt (i_eq hx1 ⟨by decide, by decide⟩).mpr c4
          refine lv_iload_n hx hb dX12_rank_36 rfl (lv_at hl 0 rfl) ?_
          refine lv_bipush (v := iI 18) hx hb dX12_rank_37 (by decide +kernel) ?_
          refine lv_icmp_eq (tgt := 48) hx hb dX12_rank_39 (by decide) (fun c5 => ?_) (fun c5 => ?_)
          · have c5 : x1 = 18 := (i_eq hx1 ⟨by decide, by decide⟩).mp c5
            refine lv_iconst (v := iI 4) hx hb dX12_rank_48 (by decide +kernel) ?_
            refine lv_goto (tgt := 70) hx hb dX12_rank_49 (by decide) ?_
            exact RET 4 _ _ _ _ _ ⟨rfl, by omega⟩ hP hS dX12_rank_70
          · have c5 : ¬ x1 = 18 := mt (i_eq hx1 ⟨by decide, by decide⟩).mpr c5
            refine lv_iload_n hx hb dX12_rank_42 rfl (lv_at hl 0 rfl) ?_
            refine lv_bipush (v := iI 19) hx hb dX12_rank_43 (by decide +kernel) ?_
            refine lv_icmp_ne (tgt := 52) hx hb dX12_rank_45 (by decide) (fun c6 => ?_) (fun c6 => ?_)
            · have c6 : ¬ x1 = 19 := mt (i_eq hx1 ⟨by decide, by decide⟩).mpr c6
              refine lv_iload_n hx hb dX12_rank_52 rfl (lv_at hl 0 rfl) ?_
              refine lv_bipush (v := iI 10) hx hb dX12_rank_53 (by decide +kernel) ?_
              refine lv_icmp_eq (tgt := 64) hx hb dX12_rank_55 (by decide) (fun c7 => ?_) (fun c7 => ?_)
              · have c7 : x1 = 10 := (i_eq hx1 ⟨by decide, by decide⟩).mp c7
                refine lv_iconst (v := iI 5) hx hb dX12_rank_64 (by decide +kernel) ?_
                refine lv_goto (tgt := 70) hx hb dX12_rank_65 (by decide) ?_
                exact RET 5 _ _ _ _ _ ⟨rfl, by omega⟩ hP hS dX12_rank_70
              · have c7 : ¬ x1 = 10 := mt (i_eq hx1 ⟨by decide, by decide⟩).mpr c7
                refine lv_iload_n hx hb dX12_rank_58 rfl (lv_at hl 0 rfl) ?_
                refine lv_bipush (v := iI 11) hx hb dX12_rank_59 (by decide +kernel) ?_
                refine lv_icmp_ne (tgt := 68) hx hb dX12_rank_61 (by decide) (fun c8 => ?_) (fun c8 => ?_)
                · have c8 : ¬ x1 = 11 := mt (i_eq hx1 ⟨by decide, by decide⟩).mpr c8
                  refine lv_bipush (v := iI 6) hx hb dX12_rank_68 (by decide +kernel) ?_
                  exact RET 6 _ _ _ _ _ ⟨rfl, by omega⟩ hP hS dX12_rank_70
                · have c8 : x1 = 11 := (i_eq hx1 ⟨by decide, by decide⟩).mp c8
                  refine lv_iconst (v := iI 5) hx hb dX12_rank_64 (by decide +kernel) ?_
                  refine lv_goto (tgt := 70) hx hb dX12_rank_65 (by decide) ?_
                  exact RET 5 _ _ _ _ _ ⟨rfl, by omega⟩ hP hS dX12_rank_70
            · have c6 : x1 = 19 := (i_eq hx1 ⟨by decide, by decide⟩).mp c6
              refine lv_iconst (v := iI 4) hx hb dX12_rank_48 (by decide +kernel) ?_
              refine lv_goto (tgt := 70) hx hb dX12_rank_49 (by decide) ?_
              exact RET 4 _ _ _ _ _ ⟨rfl, by omega⟩ hP hS dX12_rank_70
      · have c3 : x1 = 22 := (i_eq hx1 ⟨by decide, by decide⟩).mp c3
        refine lv_iconst (v := iI 3) hx hb dX12_rank_26 (by decide +kernel) ?_
        refine lv_goto (tgt := 70) hx hb dX12_rank_27 (by decide) ?_
        exact RET 3 _ _ _ _ _ ⟨rfl, by omega⟩ hP hS dX12_rank_70
    · have c2 : x1 = 20 := (i_eq hx1 ⟨by decide, by decide⟩).mp c2
      refine lv_iconst (v := iI 2) hx hb dX12_rank_16 (by decide +kernel) ?_
      refine lv_goto (tgt := 70) hx hb dX12_rank_17 (by decide) ?_
      exact RET 2 _ _ _ _ _ ⟨rfl, by omega⟩ hP hS dX12_rank_70
  · have c1 : x1 = 21 := (i_eq hx1 ⟨by decide, by decide⟩).mp c1
    refine lv_iconst (v := iI 1) hx hb dX12_rank_6 (by decide +kernel) ?_
    refine lv_goto (tgt := 70) hx hb dX12_rank_7 (by decide) ?_
    exact RET 1 _ _ _ _ _ ⟨rfl, by omega⟩ hP hS dX12_rank_70

abbrev tr_r_X12_isTest (x1 : Int) (A : St) (z : Int) : Prop := (((x1 = 1) ∧ (z = 1)) ∨ ((¬ x1 = 1) ∧ (((¬ x1 = 5) ∧ (z = 0)) ∨ ((x1 = 5) ∧ (z = 1)))))
def r_X12_isTest (x1 : Int) (A : St) (z : Int) : Prop := tr_r_X12_isTest x1 A z
theorem u_r_X12_isTest {x1 : Int} {A : St} {z : Int} (h : tr_r_X12_isTest x1 A z) : r_X12_isTest x1 A z := h
def q_X12_isTest (x1 : Int) (A : St) (z : Int) : Prop := r_X12_isTest x1 A z ∧ (0 ≤ z ∧ z ≤ 1)
def ws_mc_X12_isTest : List Cond := .code yX12_isTest cX12_isTest 1 (some .boolean) :: WX
set_option maxHeartbeats 4000000 in
set_option maxRecDepth 100000 in
theorem mc_X12_isTest (l : Launch) (dC : Nat → ClassId) (dI : Nat → Nat → Nat) (cB cI cJ cZ cQ : ClassId) (q : Nat → Nat) (A : St) (x1 : Int) (hI : IM A) (hx1 : (-2147483648 : Int) ≤ x1 ∧ x1 ≤ 2147483647) : XMi l yX12_isTest ws_mc_X12_isTest ({ frames := 0, cells := 0, slots := 0, locals := 0 } : Room) (dC, dI) (tyA cB cI cJ cZ cQ) (WM cI cJ cZ q) A [.int (iI x1)] (fun z u => A = u ∧ r_X12_isTest x1 A z ∧ (0 ≤ z ∧ z ≤ 1)) := by
  refine x_metz (cc := cX12_isTest) (maxL := 1) WM_adr (by decide +kernel) rfl (Nat.le_of_ble_eq_true rfl) (fun z u h => h.2.2) (fun p e s m below meth c Q AS ls hx hb hml hown hts hK hDD hA0 hP hS hl RET => ?_)
  have hown : s.vm.findClass RX12 = some m.cls := hown
  have hl : lv_has ls 1 [(0, .int (iI x1))] := hl
  obtain ⟨H, hHe⟩ : ∃ H : Heap, H = s.heap := ⟨_, rfl⟩
  rw [← hHe] at hP
  have hS : va_S AS s.heap H [] := by rw [hHe]; exact hS
  suffices hgo : ∀ locs : List Loc, va_S AS s.heap H locs → W p l e (headSpec ws_mc_X12_isTest ({ frames := 0, cells := 0, slots := 0, locals := 0 } : Room)).room s m [.int (iI x1)].toArray below meth c H locs 0 0 Q (F0 m 0 ls []) by
    have := hgo [] hS
    rw [hHe] at this
    exact this
  clear hS hHe
  intro locs hS
  refine lv_iload_n hx hb dX12_isTest_0 rfl (lv_at hl 0 rfl) ?_
  refine lv_iconst (v := iI 1) hx hb dX12_isTest_1 (by decide +kernel) ?_
  refine lv_icmp_eq (tgt := 10) hx hb dX12_isTest_2 (by decide) (fun c1 => ?_) (fun c1 => ?_)
  · have c1 : x1 = 1 := (i_eq hx1 ⟨by decide, by decide⟩).mp c1
    refine lv_iconst (v := iI 1) hx hb dX12_isTest_10 (by decide +kernel) ?_
    refine lv_goto (tgt := 15) hx hb dX12_isTest_11 (by decide) ?_
    exact RET 1 _ _ _ _ _ ⟨rfl, (u_r_X12_isTest (Or.inl ⟨c1, rfl⟩)), by omega⟩ hP hS dX12_isTest_15
  · have c1 : ¬ x1 = 1 := mt (i_eq hx1 ⟨by decide, by decide⟩).mpr c1
    refine lv_iload_n hx hb dX12_isTest_5 rfl (lv_at hl 0 rfl) ?_
    refine lv_iconst (v := iI 5) hx hb dX12_isTest_6 (by decide +kernel) ?_
    refine lv_icmp_ne (tgt := 14) hx hb dX12_isTest_7 (by decide) (fun c2 => ?_) (fun c2 => ?_)
    · have c2 : ¬ x1 = 5 := mt (i_eq hx1 ⟨by decide, by decide⟩).mpr c2
      refine lv_iconst (v := iI 0) hx hb dX12_isTest_14 (by decide +kernel) ?_
      exact RET 0 _ _ _ _ _ ⟨rfl, (u_r_X12_isTest (Or.inr ⟨c1, (Or.inl ⟨c2, rfl⟩)⟩)), by omega⟩ hP hS dX12_isTest_15
    · have c2 : x1 = 5 := (i_eq hx1 ⟨by decide, by decide⟩).mp c2
      refine lv_iconst (v := iI 1) hx hb dX12_isTest_10 (by decide +kernel) ?_
      refine lv_goto (tgt := 15) hx hb dX12_isTest_11 (by decide) ?_
      exact RET 1 _ _ _ _ _ ⟨rfl, (u_r_X12_isTest (Or.inr ⟨c1, (Or.inr ⟨c2, rfl⟩)⟩)), by omega⟩ hP hS dX12_isTest_15

def ws_mc_X12_holdsBack : List Cond := .code yX12_holdsBack cX12_holdsBack 2 none :: WX
set_option maxHeartbeats 4000000 in
set_option maxRecDepth 100000 in
theorem mc_X12_holdsBack (l : Launch) (dC : Nat → ClassId) (dI : Nat → Nat → Nat) (cB cI cJ cZ cQ : ClassId) (q : Nat → Nat) (A : St) (x1 : Int) (hI : IM A) (hx1 : (0 : Int) ≤ x1 ∧ x1 ≤ 22) (hp0 : A 0 56 < 500) : XMv l yX12_holdsBack ws_mc_X12_holdsBack ({ frames := 0, cells := 0, slots := 0, locals := 0 } : Room) (dC, dI) (tyA cB cI cJ cZ cQ) (WM cI cJ cZ q) A [.ref (q 0), .int (iI x1)] (fun u => IM u ∧ fr [40] [56] A u ∧ (u 0 56 = A 0 56 + 1)) := by
  refine x_metv (cc := cX12_holdsBack) (maxL := 2) WM_adr (by decide +kernel) rfl (Nat.le_of_ble_eq_true rfl) (fun p e s m below meth c Q AS ls hx hb hml hown hts hK hDD hA0 hP hS hl RET => ?_)
  have hown : s.vm.findClass RX12 = some m.cls := hown
  have hl : lv_has ls 2 [(0, .ref (q 0)), (1, .int (iI x1))] := hl
  have hiX12 : ∀ w ∈ u_ws RX12 TX12 85, w ∈ ws_mc_X12_holdsBack := fun w h => List.mem_cons_of_mem _ (wx_lay w h)
  obtain ⟨H, hHe⟩ : ∃ H : Heap, H = s.heap := ⟨_, rfl⟩
  rw [← hHe] at hP
  have hS : va_S AS s.heap H [] := by rw [hHe]; exact hS
  suffices hgo : ∀ locs : List Loc, va_S AS s.heap H locs → W p l e (headSpec ws_mc_X12_holdsBack ({ frames := 0, cells := 0, slots := 0, locals := 0 } : Room)).room s m [.ref (q 0), .int (iI x1)].toArray below meth c H locs 0 0 Q (F0 m 0 ls []) by
    have := hgo [] hS
    rw [hHe] at this
    exact this
  clear hS hHe
  intro locs hS
  refine lv_aload_n hx hb dX12_holdsBack_0 rfl (lv_at hl 0 rfl) ?_
  refine va_get (D := (dC, dI)) (ci := 12) (v := .ref (q 40)) (C := RX12) (T := TX12) (N := 85) hx hb hts hiX12 hown hK hP 0 wm0 rfl 55 (by decide) (hts _ (List.mem_cons_of_mem _ (wl_in_1 _ (List.mem_of_getElem? (i := 38) rfl)))) (fun _ h9 => h9) rfl dX12_holdsBack_1 ?_
  refine lv_aload_n hx hb dX12_holdsBack_4 rfl (lv_at hl 0 rfl) ?_
  refine va_get (D := (dC, dI)) (ci := 12) (v := .int (iI (A 0 56))) (C := RX12) (T := TX12) (N := 85) hx hb hts hiX12 hown hK hP 0 wm0 rfl 56 (by decide) (hts _ (List.mem_cons_of_mem _ (wl_in_1 _ (List.mem_of_getElem? (i := 35) rfl)))) (fun _ h9 => h9) rfl dX12_holdsBack_5 ?_
  have r_A_0_56 : (0 : Int) ≤ (A 0 56) ∧ (A 0 56) ≤ 500 := hI 0 56
  refine lv_iload_n hx hb dX12_holdsBack_8 rfl (lv_at hl 1 rfl) ?_
  refine x_iast hx hb hK hP hDD hS 40 1 wm40 rfl (by omega) (by decide) dX12_holdsBack_9 ws40 (fun H locs hP hS => ?_)
  have hI := hI.st (j := 40) (i := ((A 0 56)).toNat) (v := x1) (show (0 : Int) ≤ x1 ∧ x1 ≤ 22 from (by omega))
  refine lv_aload_n hx hb dX12_holdsBack_10 rfl (lv_at hl 0 rfl) ?_
  refine lv_dup hx hb dX12_holdsBack_11 rfl ?_
  refine va_get (D := (dC, dI)) (ci := 12) (v := .int (iI (A 0 56))) (C := RX12) (T := TX12) (N := 85) hx hb hts hiX12 hown hK hP 0 wm0 rfl 56 (by decide) (hts _ (List.mem_cons_of_mem _ (wl_in_1 _ (List.mem_of_getElem? (i := 35) rfl)))) (fun _ h9 => h9) rfl dX12_holdsBack_12 ?_
  refine lv_iconst (v := iI 1) hx hb dX12_holdsBack_15 (by decide +kernel) ?_
  refine x_addv (v := (A 0 56) + 1) hx hb dX12_holdsBack_16 (by omega) ?_
  refine x_put (D := (dC, dI)) (ci := 12) (v := .int (iI ((A 0 56) + 1))) (ty := .int) (C := RX12) (T := TX12) (N := 85) hx hb hts hiX12 tyX12 tyX12_ok nmX12 hown hK hP hDD hS 0 wm0 rfl 56 (by decide) (hts _ (List.mem_cons_of_mem _ (wl_in_1 _ (List.mem_of_getElem? (i := 35) rfl)))) (fun _ h9 => h9) rfl (by decide +kernel) rfl rfl (Nat.le_of_ble_eq_true rfl) dX12_holdsBack_17 (wf56 (v := (A 0 56) + 1)) (fun H locs hP hS => ?_)
  have hI := hI.st (j := 0) (i := 56) (v := (A 0 56) + 1) (show (0 : Int) ≤ (A 0 56) + 1 ∧ (A 0 56) + 1 ≤ 500 from (by omega))
  obtain ⟨A1, hA1⟩ : ∃ A1 : St, A1 = (stA (stA A 40 ((A 0 56)).toNat x1) 0 56 ((A 0 56) + 1)) := ⟨_, rfl⟩
  rw [← hA1] at hP hI
  have e_A1_56 : A1 0 56 = (A 0 56) + 1 := by rw [hA1]; rfl
  exact RET _ _ _ _ _ ⟨hI, fr_def hA1 (fr.sf (fr.st (fr.rf) (by decide) rfl) rfl), by omega⟩ hP hS dX12_holdsBack_20

def ws_mc_X12_pushes : List Cond := .code yX12_pushes cX12_pushes 2 none :: WX
set_option maxHeartbeats 4000000 in
set_option maxRecDepth 100000 in
theorem mc_X12_pushes (l : Launch) (dC : Nat → ClassId) (dI : Nat → Nat → Nat) (cB cI cJ cZ cQ : ClassId) (q : Nat → Nat) (A : St) (x1 : Int) (hI : IM A) (hx1 : (0 : Int) ≤ x1 ∧ x1 ≤ 5) (hp0 : A 0 53 < 20) : XMv l yX12_pushes ws_mc_X12_pushes ({ frames := 0, cells := 0, slots := 0, locals := 0 } : Room) (dC, dI) (tyA cB cI cJ cZ cQ) (WM cI cJ cZ q) A [.ref (q 0), .int (iI x1)] (fun u => IM u ∧ fr [35, 36, 37, 39] [53] A u ∧ (u 0 53 = A 0 53 + 1)) := by
  refine x_metv (cc := cX12_pushes) (maxL := 2) WM_adr (by decide +kernel) rfl (Nat.le_of_ble_eq_true rfl) (fun p e s m below meth c Q AS ls hx hb hml hown hts hK hDD hA0 hP hS hl RET => ?_)
  have hown : s.vm.findClass RX12 = some m.cls := hown
  have hl : lv_has ls 2 [(0, .ref (q 0)), (1, .int (iI x1))] := hl
  have hiX12 : ∀ w ∈ u_ws RX12 TX12 85, w ∈ ws_mc_X12_pushes := fun w h => List.mem_cons_of_mem _ (wx_lay w h)
  obtain ⟨H, hHe⟩ : ∃ H : Heap, H = s.heap := ⟨_, rfl⟩
  rw [← hHe] at hP
  have hS : va_S AS s.heap H [] := by rw [hHe]; exact hS
  suffices hgo : ∀ locs : List Loc, va_S AS s.heap H locs → W p l e (headSpec ws_mc_X12_pushes ({ frames := 0, cells := 0, slots := 0, locals := 0 } : Room)).room s m [.ref (q 0), .int (iI x1)].toArray below meth c H locs 0 0 Q (F0 m 0 ls []) by
    have := hgo [] hS
    rw [hHe] at this
    exact this
  clear hS hHe
  intro locs hS
  refine lv_aload_n hx hb dX12_pushes_0 rfl (lv_at hl 0 rfl) ?_
  refine va_get (D := (dC, dI)) (ci := 12) (v := .ref (q 35)) (C := RX12) (T := TX12) (N := 85) hx hb hts hiX12 hown hK hP 0 wm0 rfl 48 (by decide) (hts _ (List.mem_cons_of_mem _ (wl_in_1 _ (List.mem_of_getElem? (i := 46) rfl)))) (fun _ h9 => h9) rfl dX12_pushes_1 ?_
  refine lv_aload_n hx hb dX12_pushes_4 rfl (lv_at hl 0 rfl) ?_
  refine va_get (D := (dC, dI)) (ci := 12) (v := .int (iI (A 0 53))) (C := RX12) (T := TX12) (N := 85) hx hb hts hiX12 hown hK hP 0 wm0 rfl 53 (by decide) (hts _ (List.mem_cons_of_mem _ (wl_in_1 _ (List.mem_of_getElem? (i := 37) rfl)))) (fun _ h9 => h9) rfl dX12_pushes_5 ?_
  have r_A_0_53 : (0 : Int) ≤ (A 0 53) ∧ (A 0 53) ≤ 20 := hI 0 53
  refine lv_iload_n hx hb dX12_pushes_8 rfl (lv_at hl 1 rfl) ?_
  refine x_iast hx hb hK hP hDD hS 35 1 wm35 rfl (by omega) (by decide) dX12_pushes_9 ws35 (fun H locs hP hS => ?_)
  have hI := hI.st (j := 35) (i := ((A 0 53)).toNat) (v := x1) (show (0 : Int) ≤ x1 ∧ x1 ≤ 5 from (by omega))
  refine lv_aload_n hx hb dX12_pushes_10 rfl (lv_at hl 0 rfl) ?_
  refine va_get (D := (dC, dI)) (ci := 12) (v := .ref (q 36)) (C := RX12) (T := TX12) (N := 85) hx hb hts hiX12 hown hK hP 0 wm0 rfl 49 (by decide) (hts _ (List.mem_cons_of_mem _ (wl_in_1 _ (List.mem_of_getElem? (i := 47) rfl)))) (fun _ h9 => h9) rfl dX12_pushes_11 ?_
  refine lv_aload_n hx hb dX12_pushes_14 rfl (lv_at hl 0 rfl) ?_
  refine va_get (D := (dC, dI)) (ci := 12) (v := .int (iI (A 0 53))) (C := RX12) (T := TX12) (N := 85) hx hb hts hiX12 hown hK hP 0 wm0 rfl 53 (by decide) (hts _ (List.mem_cons_of_mem _ (wl_in_1 _ (List.mem_of_getElem? (i := 37) rfl)))) (fun _ h9 => h9) rfl dX12_pushes_15 ?_
  refine lv_iconst (v := iI 0) hx hb dX12_pushes_18 (by decide +kernel) ?_
  refine x_iast hx hb hK hP hDD hS 36 1 wm36 rfl (by omega) (by decide) dX12_pushes_19 ws36 (fun H locs hP hS => ?_)
  have hI := hI.st (j := 36) (i := ((A 0 53)).toNat) (v := 0) (show (0 : Int) ≤ 0 ∧ 0 ≤ 2 from (by omega))
  refine lv_aload_n hx hb dX12_pushes_20 rfl (lv_at hl 0 rfl) ?_
  refine va_get (D := (dC, dI)) (ci := 12) (v := .ref (q 37)) (C := RX12) (T := TX12) (N := 85) hx hb hts hiX12 hown hK hP 0 wm0 rfl 50 (by decide) (hts _ (List.mem_cons_of_mem _ (wl_in_1 _ (List.mem_of_getElem? (i := 48) rfl)))) (fun _ h9 => h9) rfl dX12_pushes_21 ?_
  refine lv_aload_n hx hb dX12_pushes_24 rfl (lv_at hl 0 rfl) ?_
  refine va_get (D := (dC, dI)) (ci := 12) (v := .int (iI (A 0 53))) (C := RX12) (T := TX12) (N := 85) hx hb hts hiX12 hown hK hP 0 wm0 rfl 53 (by decide) (hts _ (List.mem_cons_of_mem _ (wl_in_1 _ (List.mem_of_getElem? (i := 37) rfl)))) (fun _ h9 => h9) rfl dX12_pushes_25 ?_
  refine lv_iconst (v := iI 1) hx hb dX12_pushes_28 (by decide +kernel) ?_
  refine x_zast hx hb hK hP hDD hS 37 3 wm37 rfl (by omega) (by decide) dX12_pushes_29 (by omega) ws37 (fun H locs hP hS => ?_)
  have hI := hI.st (j := 37) (i := ((A 0 53)).toNat) (v := 1) (show (0 : Int) ≤ 1 ∧ 1 ≤ 1 from (by omega))
  refine lv_aload_n hx hb dX12_pushes_30 rfl (lv_at hl 0 rfl) ?_
  refine va_get (D := (dC, dI)) (ci := 12) (v := .ref (q 39)) (C := RX12) (T := TX12) (N := 85) hx hb hts hiX12 hown hK hP 0 wm0 rfl 52 (by decide) (hts _ (List.mem_cons_of_mem _ (wl_in_1 _ (List.mem_of_getElem? (i := 36) rfl)))) (fun _ h9 => h9) rfl dX12_pushes_31 ?_
  refine lv_aload_n hx hb dX12_pushes_34 rfl (lv_at hl 0 rfl) ?_
  refine va_get (D := (dC, dI)) (ci := 12) (v := .int (iI (A 0 53))) (C := RX12) (T := TX12) (N := 85) hx hb hts hiX12 hown hK hP 0 wm0 rfl 53 (by decide) (hts _ (List.mem_cons_of_mem _ (wl_in_1 _ (List.mem_of_getElem? (i := 37) rfl)))) (fun _ h9 => h9) rfl dX12_pushes_35 ?_
  refine lv_aload_n hx hb dX12_pushes_38 rfl (lv_at hl 0 rfl) ?_
  refine va_get (D := (dC, dI)) (ci := 12) (v := .int (iI (A 0 56))) (C := RX12) (T := TX12) (N := 85) hx hb hts hiX12 hown hK hP 0 wm0 rfl 56 (by decide) (hts _ (List.mem_cons_of_mem _ (wl_in_1 _ (List.mem_of_getElem? (i := 35) rfl)))) (fun _ h9 => h9) rfl dX12_pushes_39 ?_
  have r_A_0_56 : (0 : Int) ≤ (A 0 56) ∧ (A 0 56) ≤ 500 := hI 0 56
  refine x_iast hx hb hK hP hDD hS 39 1 wm39 rfl (by omega) (by decide) dX12_pushes_42 ws39 (fun H locs hP hS => ?_)
  have hI := hI.st (j := 39) (i := ((A 0 53)).toNat) (v := (A 0 56)) (show (0 : Int) ≤ (A 0 56) ∧ (A 0 56) ≤ 500 from (by omega))
  refine lv_aload_n hx hb dX12_pushes_43 rfl (lv_at hl 0 rfl) ?_
  refine lv_dup hx hb dX12_pushes_44 rfl ?_
  refine va_get (D := (dC, dI)) (ci := 12) (v := .int (iI (A 0 53))) (C := RX12) (T := TX12) (N := 85) hx hb hts hiX12 hown hK hP 0 wm0 rfl 53 (by decide) (hts _ (List.mem_cons_of_mem _ (wl_in_1 _ (List.mem_of_getElem? (i := 37) rfl)))) (fun _ h9 => h9) rfl dX12_pushes_45 ?_
  refine lv_iconst (v := iI 1) hx hb dX12_pushes_48 (by decide +kernel) ?_
  refine x_addv (v := (A 0 53) + 1) hx hb dX12_pushes_49 (by omega) ?_
  refine x_put (D := (dC, dI)) (ci := 12) (v := .int (iI ((A 0 53) + 1))) (ty := .int) (C := RX12) (T := TX12) (N := 85) hx hb hts hiX12 tyX12 tyX12_ok nmX12 hown hK hP hDD hS 0 wm0 rfl 53 (by decide) (hts _ (List.mem_cons_of_mem _ (wl_in_1 _ (List.mem_of_getElem? (i := 37) rfl)))) (fun _ h9 => h9) rfl (by decide +kernel) rfl rfl (Nat.le_of_ble_eq_true rfl) dX12_pushes_50 (wf53 (v := (A 0 53) + 1)) (fun H locs hP hS => ?_)
  have hI := hI.st (j := 0) (i := 53) (v := (A 0 53) + 1) (show (0 : Int) ≤ (A 0 53) + 1 ∧ (A 0 53) + 1 ≤ 20 from (by omega))
  obtain ⟨A1, hA1⟩ : ∃ A1 : St, A1 = (stA (stA (stA (stA (stA A 35 ((A 0 53)).toNat x1) 36 ((A 0 53)).toNat 0) 37 ((A 0 53)).toNat 1) 39 ((A 0 53)).toNat (A 0 56)) 0 53 ((A 0 53) + 1)) := ⟨_, rfl⟩
  rw [← hA1] at hP hI
  have e_A1_53 : A1 0 53 = (A 0 53) + 1 := by rw [hA1]; rfl
  exact RET _ _ _ _ _ ⟨hI, fr_def hA1 (fr.sf (fr.st (fr.st (fr.st (fr.st (fr.rf) (by decide) rfl) (by decide) rfl) (by decide) rfl) (by decide) rfl) rfl), by omega⟩ hP hS dX12_pushes_53
