abbrev tr_r_X12_writes (x1 : Int) (A : St) (u : St) : Prop := (∃ z1 : Int, z1 = oAnd x1 255 ∧ (∃ A2 : St, A2 = (stA (stA A 57 ((A 0 84)).toNat z1) 0 84 ((A 0 84) + 1)) ∧ (u = A2)))
def r_X12_writes (x1 : Int) (A : St) (u : St) : Prop := tr_r_X12_writes x1 A u
theorem u_r_X12_writes {x1 : Int} {A : St} {u : St} (h : tr_r_X12_writes x1 A u) : r_X12_writes x1 A u := h
def q_X12_writes (x1 : Int) (A : St) (u : St) : Prop := r_X12_writes x1 A u ∧ IM u ∧ fr [57] [84] A u ∧ (u 0 84 = A 0 84 + 1)
def ws_mc_X12_writes : List Cond := .code yX12_writes cX12_writes 2 none :: WX
set_option maxHeartbeats 4000000 in
set_option maxRecDepth 100000 in
theorem mc_X12_writes (l : Launch) (dC : Nat → ClassId) (dI : Nat → Nat → Nat) (cB cI cJ cZ cQ : ClassId) (q : Nat → Nat) (A : St) (x1 : Int) (hI : IM A) (hx1 : (-2147483648 : Int) ≤ x1 ∧ x1 ≤ 2147483647) (hp0 : A 0 84 < 48) : XMv l yX12_writes ws_mc_X12_writes ({ frames := 0, cells := 0, slots := 0, locals := 0 } : Room) (dC, dI) (tyA cB cI cJ cZ cQ) (WM cI cJ cZ q) A [.ref (q 0), .int (iI x1)] (fun u => r_X12_writes x1 A u ∧ IM u ∧ fr [57] [84] A u ∧ (u 0 84 = A 0 84 + 1)) := by
  refine x_metv (cc := cX12_writes) (maxL := 2) WM_adr (by decide +kernel) rfl (Nat.le_of_ble_eq_true rfl) (fun p e s m below meth c Q AS ls hx hb hml hown hts hK hDD hA0 hP hS hl RET => ?_)
  have hown : s.vm.findClass RX12 = some m.cls := hown
  have hl : lv_has ls 2 [(0, .ref (q 0)), (1, .int (iI x1))] := hl
  have hiX12 : ∀ w ∈ u_ws RX12 TX12 85, w ∈ ws_mc_X12_writes := fun w h => List.mem_cons_of_mem _ (wx_lay w h)
  obtain ⟨H, hHe⟩ : ∃ H : Heap, H = s.heap := ⟨_, rfl⟩
  rw [← hHe] at hP
  have hS : va_S AS s.heap H [] := by rw [hHe]; exact hS
  suffices hgo : ∀ locs : List Loc, va_S AS s.heap H locs → W p l e (headSpec ws_mc_X12_writes ({ frames := 0, cells := 0, slots := 0, locals := 0 } : Room)).room s m [.ref (q 0), .int (iI x1)].toArray below meth c H locs 0 0 Q (F0 m 0 ls []) by
    have := hgo [] hS
    rw [hHe] at this
    exact this
  clear hS hHe
  intro locs hS
  refine lv_aload_n hx hb (dk_at dkX12_writes_0 0 rfl) rfl (lv_at hl 0 rfl) ?_
  refine va_get (D := (dC, dI)) (ci := 12) (v := .ref (q 57)) (C := RX12) (T := TX12) (N := 85) hx hb hts hiX12 hown hK hP 0 wm0 rfl 83 (by decide) (hts _ (List.mem_cons_of_mem _ wlq_8_37)) (fun _ h9 => h9) rfl (dk_at dkX12_writes_0 1 rfl) ?_
  refine lv_aload_n hx hb (dk_at dkX12_writes_0 2 rfl) rfl (lv_at hl 0 rfl) ?_
  refine va_get (D := (dC, dI)) (ci := 12) (v := .int (iI (A 0 84))) (C := RX12) (T := TX12) (N := 85) hx hb hts hiX12 hown hK hP 0 wm0 rfl 84 (by decide) (hts _ (List.mem_cons_of_mem _ wlq_8_38)) (fun _ h9 => h9) rfl (dk_at dkX12_writes_0 3 rfl) ?_
  have r_A_0_84 : (0 : Int) ≤ (A 0 84) ∧ (A 0 84) ≤ 48 := hI 0 84
  refine lv_iload_n hx hb (dk_at dkX12_writes_0 4 rfl) rfl (lv_at hl 1 rfl) ?_
  refine lv_sipush (v := iI 255) hx hb (dk_at dkX12_writes_0 5 rfl) (by decide +kernel) ?_
  refine lv_iand hx hb (dk_at dkX12_writes_0 6 rfl) ?_
  refine x_andE (b := 255) (by omega) (fun z1 gz1 hz1 => ?_)
  refine x_iast hx hb hK hP hDD hS 57 1 wm57 rfl (by omega) (by decide) (dk_at dkX12_writes_0 7 rfl) ws57 (fun H locs hP hS => ?_)
  have hI := hI.st (j := 57) (i := ((A 0 84)).toNat) (v := z1) (show (-2147483648 : Int) ≤ z1 ∧ z1 ≤ 2147483647 from (by omega))
  refine lv_aload_n hx hb (dk_at dkX12_writes_0 8 rfl) rfl (lv_at hl 0 rfl) ?_
  refine lv_dup hx hb (dk_at dkX12_writes_0 9 rfl) rfl ?_
  refine va_get (D := (dC, dI)) (ci := 12) (v := .int (iI (A 0 84))) (C := RX12) (T := TX12) (N := 85) hx hb hts hiX12 hown hK hP 0 wm0 rfl 84 (by decide) (hts _ (List.mem_cons_of_mem _ wlq_8_38)) (fun _ h9 => h9) rfl (dk_at dkX12_writes_0 10 rfl) ?_
  refine lv_iconst (v := iI 1) hx hb (dk_at dkX12_writes_0 11 rfl) (by decide +kernel) ?_
  refine x_addv (v := (A 0 84) + 1) hx hb (dk_at dkX12_writes_0 12 rfl) (by omega) ?_
  refine x_put (D := (dC, dI)) (ci := 12) (v := .int (iI ((A 0 84) + 1))) (ty := .int) (C := RX12) (T := TX12) (N := 85) hx hb hts hiX12 tyX12 tyX12_ok nmX12 hown hK hP hDD hS 0 wm0 rfl 84 (by decide) (hts _ (List.mem_cons_of_mem _ wlq_8_38)) (fun _ h9 => h9) rfl (by decide +kernel) rfl rfl (Nat.le_of_ble_eq_true rfl) (dk_at dkX12_writes_0 13 rfl) (wf84 (v := (A 0 84) + 1)) (fun H locs hP hS => ?_)
  have hI := hI.st (j := 0) (i := 84) (v := (A 0 84) + 1) (show (0 : Int) ≤ (A 0 84) + 1 ∧ (A 0 84) + 1 ≤ 48 from (by omega))
  obtain ⟨A2, hA2⟩ : ∃ A2 : St, A2 = (stA (stA A 57 ((A 0 84)).toNat z1) 0 84 ((A 0 84) + 1)) := ⟨_, rfl⟩
  rw [← hA2] at hP hI
  have e_A2_84 : A2 0 84 = (A 0 84) + 1 := by rw [hA2]; rfl
  exact RET _ _ _ _ _ ⟨(u_r_X12_writes ⟨z1, gz1.out, ⟨A2, hA2, rfl⟩⟩), hI, fr_def hA2 (fr.sf (fr.st (fr.rf) (by decide) rfl) rfl), by omega⟩ hP hS (dk_at dkX12_writes_0 14 rfl)

abbrev tr_d_X12_image_3 (A17 : St) (z : Int) (u : St) (K3 : Int → Int → Prop) (z28 : Int) (z29 : Int) : Prop := ((0 ≤ z28 ∧ z28 ≤ 2147483647) ∧ ((-2147483648 ≤ z29 ∧ z29 ≤ 2147483647) ∧ ((((A17 0 84) ≤ z28) ∧ (∃ A38 : St, q_X12_writes z29 A17 A38 ∧ (z = (A38 0 84) ∧ u = A38))) ∨ ((¬ (A17 0 84) ≤ z28) ∧ (∃ z41 : Int, z41 = oWrap (3 * z29) ∧ (∃ z42 : Int, z42 = A17 57 (z28).toNat ∧ (∃ z43 : Int, z43 = oWrap (z41 + z42) ∧ (∃ z44 : Int, z44 = oRem z43 233 ∧ (K3 (z28 + 1) z44)))))))))
def d_X12_image_3 (A17 : St) (z : Int) (u : St) : Nat → Int → Int → Prop
  | 0, _, _ => False
  | nn9 + 1, z28, z29 => tr_d_X12_image_3 A17 z u (fun z28 z29 => d_X12_image_3 A17 z u nn9 z28 z29) z28 z29
theorem u_d_X12_image_3 {A17 : St} {z : Int} {u : St} {nn9 : Nat} {z28 : Int} {z29 : Int} (h : tr_d_X12_image_3 A17 z u (fun z28 z29 => d_X12_image_3 A17 z u nn9 z28 z29) z28 z29) : d_X12_image_3 A17 z u (nn9 + 1) z28 z29 := h
abbrev tr_d_X12_image_4 (K2 : Int → St → Prop) (z15 : Int) (A : St) (z : Int) (u : St) (K4 : Int → St → Prop) (z59 : Int) (A61 : St) : Prop := ((IM A61) ∧ ((0 ≤ z59 ∧ z59 ≤ 6) ∧ (∃ z69 : Int, q_X12_key4 z15 A61 z69 ∧ (∃ z72 : Int, z72 = A61 14 (4 * (A 0 12) + z15).toNat ∧ (((z72 ≤ z59) ∧ (K2 (z15 + 1) A61)) ∨ ((¬ z72 ≤ z59) ∧ (∃ z74 : Int, q_X12_key4 z15 A61 z74 ∧ (∃ z77 : Int, z77 = A61 15 (40 * (A 0 12) + 10 * z15 + z59).toNat ∧ (∃ A78 : St, q_X12_writes z77 A61 A78 ∧ (K4 (z59 + 1) A78))))))))))
def d_X12_image_4 (K2 : Int → St → Prop) (z15 : Int) (A : St) (z : Int) (u : St) : Nat → Int → St → Prop
  | 0, _, _ => False
  | nn9 + 1, z59, A61 => tr_d_X12_image_4 K2 z15 A z u (fun z59 A61 => d_X12_image_4 K2 z15 A z u nn9 z59 A61) z59 A61
theorem u_d_X12_image_4 {K2 : Int → St → Prop} {z15 : Int} {A : St} {z : Int} {u : St} {nn9 : Nat} {z59 : Int} {A61 : St} (h : tr_d_X12_image_4 K2 z15 A z u (fun z59 A61 => d_X12_image_4 K2 z15 A z u nn9 z59 A61) z59 A61) : d_X12_image_4 K2 z15 A z u (nn9 + 1) z59 A61 := h
abbrev tr_d_X12_image_2 (A : St) (z : Int) (u : St) (K2 : Int → St → Prop) (z15 : Int) (A17 : St) : Prop := ((IM A17) ∧ ((0 ≤ z15 ∧ z15 ≤ 4) ∧ (∃ z26 : Int, z26 = A17 11 ((A 0 12)).toNat ∧ (((z26 ≤ z15) ∧ (∃ nn9 : Nat, d_X12_image_3 A17 z u nn9 0 19)) ∨ ((¬ z26 ≤ z15) ∧ (∃ z45 : Int, q_X12_key4 z15 A17 z45 ∧ (∃ z48 : Int, z48 = A17 13 (4 * (A 0 12) + z15).toNat ∧ (∃ A49 : St, q_X12_writes z48 A17 A49 ∧ (∃ z52 : Int, q_X12_key4 z15 A49 z52 ∧ (∃ z55 : Int, z55 = A49 14 (4 * (A 0 12) + z15).toNat ∧ (∃ A56 : St, q_X12_writes z55 A49 A56 ∧ (∃ nn9 : Nat, d_X12_image_4 K2 z15 A z u nn9 0 A56))))))))))))
def d_X12_image_2 (A : St) (z : Int) (u : St) : Nat → Int → St → Prop
  | 0, _, _ => False
  | nn9 + 1, z15, A17 => tr_d_X12_image_2 A z u (fun z15 A17 => d_X12_image_2 A z u nn9 z15 A17) z15 A17
theorem u_d_X12_image_2 {A : St} {z : Int} {u : St} {nn9 : Nat} {z15 : Int} {A17 : St} (h : tr_d_X12_image_2 A z u (fun z15 A17 => d_X12_image_2 A z u nn9 z15 A17) z15 A17) : d_X12_image_2 A z u (nn9 + 1) z15 A17 := h
abbrev tr_d_X12_image_1 (A : St) (z : Int) (u : St) (K1 : Int → St → Prop) (z2 : Int) (A4 : St) : Prop := ((IM A4) ∧ ((0 ≤ z2 ∧ z2 ≤ 3) ∧ (∃ z13 : Int, z13 = A4 16 ((A 0 12)).toNat ∧ (((z13 ≤ z2) ∧ (∃ nn9 : Nat, d_X12_image_2 A z u nn9 0 A4)) ∨ ((¬ z13 ≤ z2) ∧ (∃ z81 : Int, q_X12_placeOf z2 A4 z81 ∧ (∃ A84 : St, q_X12_writes z81 A4 A84 ∧ (K1 (z2 + 1) A84))))))))
def d_X12_image_1 (A : St) (z : Int) (u : St) : Nat → Int → St → Prop
  | 0, _, _ => False
  | nn9 + 1, z2, A4 => tr_d_X12_image_1 A z u (fun z2 A4 => d_X12_image_1 A z u nn9 z2 A4) z2 A4
theorem u_d_X12_image_1 {A : St} {z : Int} {u : St} {nn9 : Nat} {z2 : Int} {A4 : St} (h : tr_d_X12_image_1 A z u (fun z2 A4 => d_X12_image_1 A z u nn9 z2 A4) z2 A4) : d_X12_image_1 A z u (nn9 + 1) z2 A4 := h
abbrev tr_r_X12_image (A : St) (z : Int) (u : St) : Prop := (∃ A1 : St, A1 = (stA A 0 84 0) ∧ (∃ nn9 : Nat, d_X12_image_1 A z u nn9 0 A1))
def r_X12_image (A : St) (z : Int) (u : St) : Prop := tr_r_X12_image A z u
theorem u_r_X12_image {A : St} {z : Int} {u : St} (h : tr_r_X12_image A z u) : r_X12_image A z u := h
def ws_mc_X12_image : List Cond := .code yX12_image cX12_image 3 (some .int) :: WX
set_option maxHeartbeats 4000000 in
set_option maxRecDepth 100000 in
theorem mc_X12_image (l : Launch) (dC : Nat → ClassId) (dI : Nat → Nat → Nat) (cB cI cJ cZ cQ : ClassId) (q : Nat → Nat) (A : St) (hI : IM A) : XMi l yX12_image ws_mc_X12_image ({ frames := 1, cells := 0, slots := 0, locals := 21 } : Room) (dC, dI) (tyA cB cI cJ cZ cQ) (WM cI cJ cZ q) A [.ref (q 0)] (fun z u => r_X12_image A z u ∧ IM u ∧ fr [57] [84] A u ∧ (-2147483648 ≤ z ∧ z ≤ 2147483647)) := by
  refine x_meti (cc := cX12_image) (maxL := 3) WM_adr (by decide +kernel) rfl (Nat.le_of_ble_eq_true rfl) (fun p e s m below meth c Q AS ls hx hb hml hown hts hK hDD hA0 hP hS hl RET => ?_)
  have hown : s.vm.findClass RX12 = some m.cls := hown
  have hl : lv_has ls 3 [(0, .ref (q 0))] := hl
  have hiX12 : ∀ w ∈ u_ws RX12 TX12 85, w ∈ ws_mc_X12_image := fun w h => List.mem_cons_of_mem _ (wx_lay w h)
  obtain ⟨H, hHe⟩ : ∃ H : Heap, H = s.heap := ⟨_, rfl⟩
  rw [← hHe] at hP
  have hS : va_S AS s.heap H [] := by rw [hHe]; exact hS
  suffices hgo : ∀ locs : List Loc, va_S AS s.heap H locs → W p l e (headSpec ws_mc_X12_image ({ frames := 1, cells := 0, slots := 0, locals := 21 } : Room)).room s m [.ref (q 0)].toArray below meth c H locs 0 0 Q (F0 m 0 ls []) by
    have := hgo [] hS
    rw [hHe] at this
    exact this
  clear hS hHe
  intro locs hS
  refine lv_aload_n hx hb (dk_at dkX12_image_0 0 rfl) rfl (lv_at hl 0 rfl) ?_
  refine lv_iconst (v := iI 0) hx hb (dk_at dkX12_image_0 1 rfl) (by decide +kernel) ?_
  refine x_put (D := (dC, dI)) (ci := 12) (v := .int (iI 0)) (ty := .int) (C := RX12) (T := TX12) (N := 85) hx hb hts hiX12 tyX12 tyX12_ok nmX12 hown hK hP hDD hS 0 wm0 rfl 84 (by decide) (hts _ (List.mem_cons_of_mem _ wlq_8_38)) (fun _ h9 => h9) rfl (by decide +kernel) rfl rfl (Nat.le_of_ble_eq_true rfl) (dk_at dkX12_image_0 2 rfl) (wf84 (v := 0)) (fun H locs hP hS => ?_)
  have hI := hI.st (j := 0) (i := 84) (v := 0) (show (0 : Int) ≤ 0 ∧ 0 ≤ 48 from (by omega))
  refine lv_iconst (v := iI 0) hx hb (dk_at dkX12_image_0 3 rfl) (by decide +kernel) ?_
  refine lv_istore_n (lv' := [(1, .int (iI 0)), (0, .ref (q 0))]) hx hb (dk_at dkX12_image_0 4 rfl) rfl hl (by decide) rfl (fun ls hl => ?_)
  obtain ⟨A1, hA1⟩ : ∃ A1 : St, A1 = (stA A 0 84 0) := ⟨_, rfl⟩
  rw [← hA1] at hP hI
  have L7_6 : ∀ (n8 : Nat) (z2 : Int) (A4 : St) (H : Heap) (locs : List Loc) (ls : Array Slot), (0 ≤ z2) → (0 ≤ z2 ∧ z2 ≤ 3) → ((A4 0 84) = z2) → (∀ (z : Int) (u : St), (∃ mm1 : Nat, (d_X12_image_1 A z u mm1 z2 A4)) → r_X12_image A z u) → ((A 16 ((A 0 12)).toNat - z2 + 1).toNat = n8) → IM A4 → fr [57] [84] A1 A4 → va_P (dC, dI) vwCl (WM cI cJ cZ q A4) H → va_S AS s.heap H locs → lv_has ls 3 [(1, .int (iI z2)), (0, .ref (q 0))] → W p l e (headSpec ws_mc_X12_image ({ frames := 1, cells := 0, slots := 0, locals := 21 } : Room)).room s m [.ref (q 0)].toArray below meth c H locs 0 0 Q (F0 m 7 ls []) := by
    intro n8
    induction n8 using Nat.strongRecOn with
    | ind n8 ih7 =>
      intro z2 A4 H locs ls f9 f10 f11 hk1 hn8 hI hj3 hP hS hl
      have gI12 : Hd (IM A4) := Hd.mk hI
      refine lv_iload_n hx hb (dk_at dkX12_image_0 5 rfl) rfl (lv_at hl 0 rfl) ?_
      refine lv_aload_n hx hb (dk_at dkX12_image_0 6 rfl) rfl (lv_at hl 1 rfl) ?_
      refine va_get (D := (dC, dI)) (ci := 12) (v := .ref (q 16)) (C := RX12) (T := TX12) (N := 85) hx hb hts hiX12 hown hK hP 0 wm0 rfl 27 (by decide) (hts _ (List.mem_cons_of_mem _ wlq_1_15)) (fun _ h9 => h9) rfl (dk_at dkX12_image_0 7 rfl) ?_
      refine lv_aload_n hx hb (dk_at dkX12_image_0 8 rfl) rfl (lv_at hl 1 rfl) ?_
      have e_A1_12 : A1 0 12 = (A 0 12) := by rw [hA1]; exact rfl
      have e_A4_12 : A4 0 12 = (A 0 12) := (hj3.2 12 rfl).trans e_A1_12
      refine va_get (D := (dC, dI)) (ci := 12) (v := .int (iI (A4 0 12))) (C := RX12) (T := TX12) (N := 85) hx hb hts hiX12 hown hK hP 0 wm0 rfl 12 (by decide) (hts _ (List.mem_cons_of_mem _ wlq_4_14)) (fun _ h9 => h9) rfl (dk_at dkX12_image_0 9 rfl) ?_
      refine tp_i (y := iI (A 0 12)) (congrArg iI e_A4_12) ?_
      have r_A_0_12 : (0 : Int) ≤ (A 0 12) ∧ (A 0 12) ≤ 1 := by rw [← e_A4_12]; exact hI 0 12
      have a_A1_16 : A1 16 = A 16 := by rw [hA1]; exact rfl
      have a_A4_16 : A4 16 = A 16 := (hj3.1 16 (by decide) rfl).trans a_A1_16
      refine x_iald hx hb hK hP 16 1 wm16 rfl (by omega) (by decide) (dk_at dkX12_image_0 10 rfl) (fun z13 hz13 => ?_)
      have rz13 : (0 : Int) ≤ z13 ∧ z13 ≤ 3 := by rw [hz13]; exact hI 16 _
      have gz13 := Hd.mk hz13
      have hz13 : z13 = A 16 ((A 0 12)).toNat := hz13.trans (congrFun a_A4_16 _)
      refine lv_icmp_ge (tgt := 35) hx hb (dk_at dkX12_image_0 11 rfl) (by decide) (fun c14 => ?_) (fun c14 => ?_)
      · have c14 : z13 ≤ z2 := (i_le (rb rz13 (by decide) (by decide)) (rb f10 (by decide) (by decide))).mp c14
        refine lv_iconst (v := iI 0) hx hb (dk_at dkX12_image_1 3 rfl) (by decide +kernel) ?_
        refine lv_istore_n (lv' := [(1, .int (iI 0)), (0, .ref (q 0))]) hx hb (dk_at dkX12_image_1 4 rfl) rfl hl (by decide) rfl (fun ls hl => ?_)
        have L37_19 : ∀ (n21 : Nat) (z15 : Int) (A17 : St) (H : Heap) (locs : List Loc) (ls : Array Slot), (0 ≤ z15) → (0 ≤ z15 ∧ z15 ≤ 4) → ((A17 0 84) ≤ 3 + 8 * z15) → (∀ (z : Int) (u : St), (∃ mm1 mm2 : Nat, (d_X12_image_2 A z u mm2 z15 A17)) → r_X12_image A z u) → ((A 11 ((A 0 12)).toNat - z15 + 1).toNat = n21) → IM A17 → fr [57] [84] A4 A17 → va_P (dC, dI) vwCl (WM cI cJ cZ q A17) H → va_S AS s.heap H locs → lv_has ls 3 [(1, .int (iI z15)), (0, .ref (q 0))] → W p l e (headSpec ws_mc_X12_image ({ frames := 1, cells := 0, slots := 0, locals := 21 } : Room)).room s m [.ref (q 0)].toArray below meth c H locs 0 0 Q (F0 m 37 ls []) := by
          intro n21
          induction n21 using Nat.strongRecOn with
          | ind n21 ih20 =>
            intro z15 A17 H locs ls f22 f23 f24 hk2 hn21 hI hj16 hP hS hl
            have gI25 : Hd (IM A17) := Hd.mk hI
            refine lv_iload_n hx hb (dk_at dkX12_image_1 5 rfl) rfl (lv_at hl 0 rfl) ?_
            refine lv_aload_n hx hb (dk_at dkX12_image_1 6 rfl) rfl (lv_at hl 1 rfl) ?_
            refine va_get (D := (dC, dI)) (ci := 12) (v := .ref (q 11)) (C := RX12) (T := TX12) (N := 85) hx hb hts hiX12 hown hK hP 0 wm0 rfl 22 (by decide) (hts _ (List.mem_cons_of_mem _ wlq_1_14)) (fun _ h9 => h9) rfl (dk_at dkX12_image_1 7 rfl) ?_
            refine lv_aload_n hx hb (dk_at dkX12_image_1 8 rfl) rfl (lv_at hl 1 rfl) ?_
            have e_A17_12 : A17 0 12 = (A 0 12) := (hj16.2 12 rfl).trans e_A4_12
            refine va_get (D := (dC, dI)) (ci := 12) (v := .int (iI (A17 0 12))) (C := RX12) (T := TX12) (N := 85) hx hb hts hiX12 hown hK hP 0 wm0 rfl 12 (by decide) (hts _ (List.mem_cons_of_mem _ wlq_4_14)) (fun _ h9 => h9) rfl (dk_at dkX12_image_1 9 rfl) ?_
            refine tp_i (y := iI (A 0 12)) (congrArg iI e_A17_12) ?_
            have a_A1_11 : A1 11 = A 11 := by rw [hA1]; exact rfl
            have a_A4_11 : A4 11 = A 11 := (hj3.1 11 (by decide) rfl).trans a_A1_11
            have a_A17_11 : A17 11 = A 11 := (hj16.1 11 (by decide) rfl).trans a_A4_11
            refine x_iald hx hb hK hP 11 1 wm11 rfl (by omega) (by decide) (dk_at dkX12_image_1 10 rfl) (fun z26 hz26 => ?_)
            have rz26 : (0 : Int) ≤ z26 ∧ z26 ≤ 4 := by rw [hz26]; exact hI 11 _
            have gz26 := Hd.mk hz26
            have hz26 : z26 = A 11 ((A 0 12)).toNat := hz26.trans (congrFun a_A17_11 _)
            refine lv_icmp_ge (tgt := 125) hx hb (dk_at dkX12_image_1 11 rfl) (by decide) (fun c27 => ?_) (fun c27 => ?_)
            · have c27 : z26 ≤ z15 := (i_le (rb rz26 (by decide) (by decide)) (rb f23 (by decide) (by decide))).mp c27
              refine lv_bipush (v := iI 19) hx hb (dk_at dkX12_image_4 6 rfl) (by decide +kernel) ?_
              refine lv_istore_n (lv' := [(1, .int (iI 19)), (0, .ref (q 0))]) hx hb (dk_at dkX12_image_4 7 rfl) rfl hl (by decide) rfl (fun ls hl => ?_)
              refine lv_iconst (v := iI 0) hx hb (dk_at dkX12_image_4 8 rfl) (by decide +kernel) ?_
              refine lv_istore_n (lv' := [(2, .int (iI 0)), (1, .int (iI 19)), (0, .ref (q 0))]) hx hb (dk_at dkX12_image_4 9 rfl) rfl hl (by decide) rfl (fun ls hl => ?_)
              have L130_31 : ∀ (n33 : Nat) (z28 z29 : Int) (H : Heap) (locs : List Loc) (ls : Array Slot), (0 ≤ z28) → (0 ≤ z28 ∧ z28 ≤ 2147483647) → (-2147483648 ≤ z29 ∧ z29 ≤ 2147483647) → (∀ (z : Int) (u : St), (∃ mm1 mm2 mm3 : Nat, (d_X12_image_3 A17 z u mm3 z28 z29)) → r_X12_image A z u) → (((A17 0 84) - z28 + 1).toNat = n33) → va_P (dC, dI) vwCl (WM cI cJ cZ q A17) H → va_S AS s.heap H locs → lv_has ls 3 [(2, .int (iI z28)), (1, .int (iI z29)), (0, .ref (q 0))] → W p l e (headSpec ws_mc_X12_image ({ frames := 1, cells := 0, slots := 0, locals := 21 } : Room)).room s m [.ref (q 0)].toArray below meth c H locs 0 0 Q (F0 m 130 ls []) := by
                intro n33
                induction n33 using Nat.strongRecOn with
                | ind n33 ih32 =>
                  intro z28 z29 H locs ls f34 f35 f36 hk3 hn33 hP hS hl
                  refine lv_iload_n hx hb (dk_at dkX12_image_4 10 rfl) rfl (lv_at hl 0 rfl) ?_
                  refine lv_aload_n hx hb (dk_at dkX12_image_4 11 rfl) rfl (lv_at hl 2 rfl) ?_
                  refine va_get (D := (dC, dI)) (ci := 12) (v := .int (iI (A17 0 84))) (C := RX12) (T := TX12) (N := 85) hx hb hts hiX12 hown hK hP 0 wm0 rfl 84 (by decide) (hts _ (List.mem_cons_of_mem _ wlq_8_38)) (fun _ h9 => h9) rfl (dk_at dkX12_image_4 12 rfl) ?_
                  have r_A17_0_84 : (0 : Int) ≤ (A17 0 84) ∧ (A17 0 84) ≤ 48 := hI 0 84
                  refine lv_icmp_ge (tgt := 159) hx hb (dk_at dkX12_image_4 13 rfl) (by decide) (fun c37 => ?_) (fun c37 => ?_)
                  · have c37 : (A17 0 84) ≤ z28 := (i_le (rb r_A17_0_84 (by decide) (by decide)) (rb f35 (by decide) (by decide))).mp c37
                    refine lv_aload_n hx hb (dk_at dkX12_image_5 11 rfl) rfl (lv_at hl 2 rfl) ?_
                    refine lv_iload_n hx hb (dk_at dkX12_image_5 12 rfl) rfl (lv_at hl 1 rfl) ?_
                    refine x_callv (As := [.int (iI z29)]) (rest := []) ⟨hx, hb, hml, hown, hts⟩ (mc_X12_writes l dC dI cB cI cJ cZ cQ q _ z29 hI f36 (by omega)) (cwV 1 hts (goodV wlq_8_40 wlq_8_41 wlq_8_42 wlq_0_8 wlq_8_36) rfl rfl rfl (by decide +kernel) ⟨Nat.le_of_ble_eq_true rfl, Nat.le_of_ble_eq_true rfl⟩) hK hDD hA0 hP hS 0 12 wm0 rfl rfl hl.1 (Nat.le_of_ble_eq_true rfl) (dk_at dkX12_image_5 13 rfl) (fun A38 H locs hw39 hP hS => ?_)
                    have ghw39 : q_X12_writes z29 A17 A38 := hw39
                    obtain ⟨_, hI, hf40, hw39⟩ := hw39
                    have r_A38_0_84 : (0 : Int) ≤ (A38 0 84) ∧ (A38 0 84) ≤ 48 := hI 0 84
                    refine lv_aload_n hx hb (dk_at dkX12_image_5 14 rfl) rfl (lv_at hl 2 rfl) ?_
                    refine va_get (D := (dC, dI)) (ci := 12) (v := .int (iI (A38 0 84))) (C := RX12) (T := TX12) (N := 85) hx hb hts hiX12 hown hK hP 0 wm0 rfl 84 (by decide) (hts _ (List.mem_cons_of_mem _ wlq_8_38)) (fun _ h9 => h9) rfl (dk_at dkX12_image_5 15 rfl) ?_
                    exact RET (A38 0 84) _ _ _ _ _ ⟨hk3 _ _ ⟨0, 0, 0 + 1, (u_d_X12_image_3 ⟨f35, ⟨f36, (Or.inl ⟨c37, ⟨A38, ghw39, ⟨rfl, rfl⟩⟩⟩)⟩⟩)⟩, hI, fr.trans (fr.trans (fr.trans (fr_def hA1 (fr.sf (fr.rf) rfl)) hj3 rfl rfl) hj16 rfl rfl) hf40 rfl rfl, by omega⟩ hP hS (dk_at dkX12_image_6 0 rfl)
                  · have c37 : ¬ (A17 0 84) ≤ z28 := mt (i_le (rb r_A17_0_84 (by decide) (by decide)) (rb f35 (by decide) (by decide))).mpr c37
                    refine lv_iconst (v := iI 3) hx hb (dk_at dkX12_image_4 14 rfl) (by decide +kernel) ?_
                    refine lv_iload_n hx hb (dk_at dkX12_image_4 15 rfl) rfl (lv_at hl 1 rfl) ?_
                    refine x_mulv (v := 3 * z29) hx hb (dk_at dkX12_image_5 0 rfl) (by omega) ?_
                    refine x_absE (fun z41 gz41 hz41 => ?_)
                    refine lv_aload_n hx hb (dk_at dkX12_image_5 1 rfl) rfl (lv_at hl 2 rfl) ?_
                    refine va_get (D := (dC, dI)) (ci := 12) (v := .ref (q 57)) (C := RX12) (T := TX12) (N := 85) hx hb hts hiX12 hown hK hP 0 wm0 rfl 83 (by decide) (hts _ (List.mem_cons_of_mem _ wlq_8_37)) (fun _ h9 => h9) rfl (dk_at dkX12_image_5 2 rfl) ?_
                    refine lv_iload_n hx hb (dk_at dkX12_image_5 3 rfl) rfl (lv_at hl 0 rfl) ?_
                    refine x_iald hx hb hK hP 57 1 wm57 rfl (by omega) (by decide) (dk_at dkX12_image_5 4 rfl) (fun z42 hz42 => ?_)
                    have rz42 : (-2147483648 : Int) ≤ z42 ∧ z42 ≤ 2147483647 := by rw [hz42]; exact hI 57 _
                    have gz42 := Hd.mk hz42
                    have hz42 : z42 = A17 57 (z28).toNat := hz42
                    refine x_addv (v := z41 + z42) hx hb (dk_at dkX12_image_5 5 rfl) (by omega) ?_
                    refine x_absE (fun z43 gz43 hz43 => ?_)
                    refine lv_sipush (v := iI 233) hx hb (dk_at dkX12_image_5 6 rfl) (by decide +kernel) ?_
                    refine lv_irem hx hb (dk_at dkX12_image_5 7 rfl) (by decide +kernel) ?_
                    refine x_absE (fun z44 gz44 hz44 => ?_)
                    refine lv_istore_n (lv' := [(1, .int (iI z44)), (2, .int (iI z28)), (0, .ref (q 0))]) hx hb (dk_at dkX12_image_5 8 rfl) rfl hl (by decide) rfl (fun ls hl => ?_)
                    refine lv_iinc (v := iI (z28 + 1)) (lv' := [(2, .int (iI (z28 + 1))), (1, .int (iI z44)), (0, .ref (q 0))]) hx hb (dk_at dkX12_image_5 9 rfl) hl (k := 1) rfl (i_inc (by omega)) (by decide) rfl (fun ls hl => ?_)
                    refine lv_goto (tgt := 130) hx hb (dk_at dkX12_image_5 10 rfl) (by decide) ?_
                    exact ih32 _ (by omega) (z28 + 1) z44 _ _ _ (by omega) (by omega) (by omega) (fun zq uq ⟨mm1, mm2, mm3, hq⟩ => hk3 _ _ ⟨mm1, mm2, mm3 + 1, (u_d_X12_image_3 ⟨f35, ⟨f36, (Or.inr ⟨c37, ⟨z41, gz41.out, ⟨z42, gz42.out, ⟨z43, gz43.out, ⟨z44, gz44.out, hq⟩⟩⟩⟩⟩)⟩⟩)⟩) rfl hP hS (lv_sub hl [0, 1, 2] rfl)
              exact L130_31 _ 0 19 _ _ _ (by omega) (by omega) (by omega) (fun zq uq ⟨mm1, mm2, mm3, hq⟩ => hk2 _ _ ⟨mm1, mm2 + 1, (u_d_X12_image_2 ⟨gI25.out, ⟨f23, ⟨z26, gz26.out, (Or.inl ⟨c27, ⟨mm3, hq⟩⟩)⟩⟩⟩)⟩) rfl hP hS (lv_sub hl [0, 1, 2] rfl)
            · have c27 : ¬ z26 ≤ z15 := mt (i_le (rb rz26 (by decide) (by decide)) (rb f23 (by decide) (by decide))).mpr c27
              refine lv_aload_n hx hb (dk_at dkX12_image_1 12 rfl) rfl (lv_at hl 1 rfl) ?_
              refine lv_aload_n hx hb (dk_at dkX12_image_1 13 rfl) rfl (lv_at hl 1 rfl) ?_
              refine va_get (D := (dC, dI)) (ci := 12) (v := .ref (q 13)) (C := RX12) (T := TX12) (N := 85) hx hb hts hiX12 hown hK hP 0 wm0 rfl 24 (by decide) (hts _ (List.mem_cons_of_mem _ wlq_2_58)) (fun _ h9 => h9) rfl (dk_at dkX12_image_1 14 rfl) ?_
              refine lv_aload_n hx hb (dk_at dkX12_image_1 15 rfl) rfl (lv_at hl 1 rfl) ?_
              refine lv_iload_n hx hb (dk_at dkX12_image_2 0 rfl) rfl (lv_at hl 0 rfl) ?_
              refine x_calli (As := [.int (iI z15)]) (rest := [.ref (q 13), .ref (q 0)]) ⟨hx, hb, hml, hown, hts⟩ (mc_X12_key4 l dC dI cB cI cJ cZ cQ q _ z15 hI (by omega)) (cwV 1 hts (goodV wlq_4_44 wlq_4_45 wlq_4_46 wlq_0_8 wlq_4_41) rfl rfl rfl (by decide +kernel) ⟨Nat.le_of_ble_eq_true rfl, Nat.le_of_ble_eq_true rfl⟩) hK hDD hA0 hP hS 0 12 wm0 rfl rfl hl.1 (Nat.le_of_ble_eq_true rfl) (dk_at dkX12_image_2 1 rfl) (fun z45 A46 H locs hw47 hP hS => ?_)
              obtain ⟨rfl, hw47⟩ := hw47
              have ghw47 : q_X12_key4 z15 A17 z45 := hw47
              have hw47 := hw47.2
              refine tp_i (y := iI (4 * (A 0 12) + z15)) (congrArg iI (show z45 = 4 * (A 0 12) + z15 by omega)) ?_
              clear hw47
              have a_A1_13 : A1 13 = A 13 := by rw [hA1]; exact rfl
              have a_A4_13 : A4 13 = A 13 := (hj3.1 13 (by decide) rfl).trans a_A1_13
              have a_A17_13 : A17 13 = A 13 := (hj16.1 13 (by decide) rfl).trans a_A4_13
              refine x_iald hx hb hK hP 13 1 wm13 rfl (by omega) (by decide) (dk_at dkX12_image_2 2 rfl) (fun z48 hz48 => ?_)
              have rz48 : (0 : Int) ≤ z48 ∧ z48 ≤ 40 := by rw [hz48]; exact hI 13 _
              have gz48 := Hd.mk hz48
              have hz48 : z48 = A 13 (4 * (A 0 12) + z15).toNat := hz48.trans (congrFun a_A17_13 _)
              have r_A17_0_84 : (0 : Int) ≤ (A17 0 84) ∧ (A17 0 84) ≤ 48 := hI 0 84
              refine x_callv (As := [.int (iI z48)]) (rest := []) ⟨hx, hb, hml, hown, hts⟩ (mc_X12_writes l dC dI cB cI cJ cZ cQ q _ z48 hI (rb rz48 (by decide) (by decide)) (by omega)) (cwV 1 hts (goodV wlq_8_40 wlq_8_41 wlq_8_42 wlq_0_8 wlq_8_36) rfl rfl rfl (by decide +kernel) ⟨Nat.le_of_ble_eq_true rfl, Nat.le_of_ble_eq_true rfl⟩) hK hDD hA0 hP hS 0 12 wm0 rfl rfl hl.1 (Nat.le_of_ble_eq_true rfl) (dk_at dkX12_image_2 3 rfl) (fun A49 H locs hw50 hP hS => ?_)
              have ghw50 : q_X12_writes z48 A17 A49 := hw50
              obtain ⟨_, hI, hf51, hw50⟩ := hw50
              have r_A49_0_84 : (0 : Int) ≤ (A49 0 84) ∧ (A49 0 84) ≤ 48 := hI 0 84
              refine lv_aload_n hx hb (dk_at dkX12_image_2 4 rfl) rfl (lv_at hl 1 rfl) ?_
              refine lv_aload_n hx hb (dk_at dkX12_image_2 5 rfl) rfl (lv_at hl 1 rfl) ?_
              refine va_get (D := (dC, dI)) (ci := 12) (v := .ref (q 14)) (C := RX12) (T := TX12) (N := 85) hx hb hts hiX12 hown hK hP 0 wm0 rfl 25 (by decide) (hts _ (List.mem_cons_of_mem _ wlq_2_59)) (fun _ h9 => h9) rfl (dk_at dkX12_image_2 6 rfl) ?_
              refine lv_aload_n hx hb (dk_at dkX12_image_2 7 rfl) rfl (lv_at hl 1 rfl) ?_
              refine lv_iload_n hx hb (dk_at dkX12_image_2 8 rfl) rfl (lv_at hl 0 rfl) ?_
              have e_A49_12 : A49 0 12 = (A 0 12) := (hf51.2 12 rfl).trans e_A17_12
              refine x_calli (As := [.int (iI z15)]) (rest := [.ref (q 14), .ref (q 0)]) ⟨hx, hb, hml, hown, hts⟩ (mc_X12_key4 l dC dI cB cI cJ cZ cQ q _ z15 hI (by omega)) (cwV 1 hts (goodV wlq_4_44 wlq_4_45 wlq_4_46 wlq_0_8 wlq_4_41) rfl rfl rfl (by decide +kernel) ⟨Nat.le_of_ble_eq_true rfl, Nat.le_of_ble_eq_true rfl⟩) hK hDD hA0 hP hS 0 12 wm0 rfl rfl hl.1 (Nat.le_of_ble_eq_true rfl) (dk_at dkX12_image_2 9 rfl) (fun z52 A53 H locs hw54 hP hS => ?_)
              obtain ⟨rfl, hw54⟩ := hw54
              have ghw54 : q_X12_key4 z15 A49 z52 := hw54
              have hw54 := hw54.2
              refine tp_i (y := iI (4 * (A 0 12) + z15)) (congrArg iI (show z52 = 4 * (A 0 12) + z15 by omega)) ?_
              clear hw54
              have a_A1_14 : A1 14 = A 14 := by rw [hA1]; exact rfl
              have a_A4_14 : A4 14 = A 14 := (hj3.1 14 (by decide) rfl).trans a_A1_14
              have a_A17_14 : A17 14 = A 14 := (hj16.1 14 (by decide) rfl).trans a_A4_14
              have a_A49_14 : A49 14 = A 14 := (hf51.1 14 (by decide) rfl).trans a_A17_14
              refine x_iald hx hb hK hP 14 1 wm14 rfl (by omega) (by decide) (dk_at dkX12_image_2 10 rfl) (fun z55 hz55 => ?_)
              have rz55 : (0 : Int) ≤ z55 ∧ z55 ≤ 6 := by rw [hz55]; exact hI 14 _
              have gz55 := Hd.mk hz55
              have hz55 : z55 = A 14 (4 * (A 0 12) + z15).toNat := hz55.trans (congrFun a_A49_14 _)
              refine x_callv (As := [.int (iI z55)]) (rest := []) ⟨hx, hb, hml, hown, hts⟩ (mc_X12_writes l dC dI cB cI cJ cZ cQ q _ z55 hI (rb rz55 (by decide) (by decide)) (by omega)) (cwV 1 hts (goodV wlq_8_40 wlq_8_41 wlq_8_42 wlq_0_8 wlq_8_36) rfl rfl rfl (by decide +kernel) ⟨Nat.le_of_ble_eq_true rfl, Nat.le_of_ble_eq_true rfl⟩) hK hDD hA0 hP hS 0 12 wm0 rfl rfl hl.1 (Nat.le_of_ble_eq_true rfl) (dk_at dkX12_image_2 11 rfl) (fun A56 H locs hw57 hP hS => ?_)
              have ghw57 : q_X12_writes z55 A49 A56 := hw57
              obtain ⟨_, hI, hf58, hw57⟩ := hw57
              have r_A56_0_84 : (0 : Int) ≤ (A56 0 84) ∧ (A56 0 84) ≤ 48 := hI 0 84
              refine lv_iconst (v := iI 0) hx hb (dk_at dkX12_image_2 12 rfl) (by decide +kernel) ?_
              refine lv_istore_n (lv' := [(2, .int (iI 0)), (1, .int (iI z15)), (0, .ref (q 0))]) hx hb (dk_at dkX12_image_2 13 rfl) rfl hl (by decide) rfl (fun ls hl => ?_)
              have L80_62 : ∀ (n64 : Nat) (z59 : Int) (A61 : St) (H : Heap) (locs : List Loc) (ls : Array Slot), (0 ≤ z59) → (0 ≤ z59 ∧ z59 ≤ 6) → ((A61 0 84) ≤ 5 + 8 * z15 + z59) → (∀ (z : Int) (u : St), (∃ mm1 mm2 mm4 : Nat, (d_X12_image_4 (fun z15' A17' => d_X12_image_2 A z u mm2 z15' A17') z15 A z u mm4 z59 A61)) → r_X12_image A z u) → ((6 - z59).toNat = n64) → IM A61 → fr [57] [84] A56 A61 → va_P (dC, dI) vwCl (WM cI cJ cZ q A61) H → va_S AS s.heap H locs → lv_has ls 3 [(2, .int (iI z59)), (1, .int (iI z15)), (0, .ref (q 0))] → W p l e (headSpec ws_mc_X12_image ({ frames := 1, cells := 0, slots := 0, locals := 21 } : Room)).room s m [.ref (q 0)].toArray below meth c H locs 0 0 Q (F0 m 80 ls []) := by
                intro n64
                induction n64 using Nat.strongRecOn with
                | ind n64 ih63 =>
                  intro z59 A61 H locs ls f65 f66 f67 hk4 hn64 hI hj60 hP hS hl
                  have gI68 : Hd (IM A61) := Hd.mk hI
                  refine lv_iload_n hx hb (dk_at dkX12_image_2 14 rfl) rfl (lv_at hl 0 rfl) ?_
                  refine lv_aload_n hx hb (dk_at dkX12_image_2 15 rfl) rfl (lv_at hl 2 rfl) ?_
                  refine va_get (D := (dC, dI)) (ci := 12) (v := .ref (q 14)) (C := RX12) (T := TX12) (N := 85) hx hb hts hiX12 hown hK hP 0 wm0 rfl 25 (by decide) (hts _ (List.mem_cons_of_mem _ wlq_2_59)) (fun _ h9 => h9) rfl (dk_at dkX12_image_3 0 rfl) ?_
                  refine lv_aload_n hx hb (dk_at dkX12_image_3 1 rfl) rfl (lv_at hl 2 rfl) ?_
                  refine lv_iload_n hx hb (dk_at dkX12_image_3 2 rfl) rfl (lv_at hl 1 rfl) ?_
                  have e_A56_12 : A56 0 12 = (A 0 12) := (hf58.2 12 rfl).trans e_A49_12
                  have e_A61_12 : A61 0 12 = (A 0 12) := (hj60.2 12 rfl).trans e_A56_12
                  refine x_calli (As := [.int (iI z15)]) (rest := [.ref (q 14), .int (iI z59)]) ⟨hx, hb, hml, hown, hts⟩ (mc_X12_key4 l dC dI cB cI cJ cZ cQ q _ z15 hI (by omega)) (cwV 1 hts (goodV wlq_4_44 wlq_4_45 wlq_4_46 wlq_0_8 wlq_4_41) rfl rfl rfl (by decide +kernel) ⟨Nat.le_of_ble_eq_true rfl, Nat.le_of_ble_eq_true rfl⟩) hK hDD hA0 hP hS 0 12 wm0 rfl rfl hl.1 (Nat.le_of_ble_eq_true rfl) (dk_at dkX12_image_3 3 rfl) (fun z69 A70 H locs hw71 hP hS => ?_)
                  obtain ⟨rfl, hw71⟩ := hw71
                  have ghw71 : q_X12_key4 z15 A61 z69 := hw71
                  have hw71 := hw71.2
                  refine tp_i (y := iI (4 * (A 0 12) + z15)) (congrArg iI (show z69 = 4 * (A 0 12) + z15 by omega)) ?_
                  clear hw71
                  have a_A56_14 : A56 14 = A 14 := (hf58.1 14 (by decide) rfl).trans a_A49_14
                  have a_A61_14 : A61 14 = A 14 := (hj60.1 14 (by decide) rfl).trans a_A56_14
                  refine x_iald hx hb hK hP 14 1 wm14 rfl (by omega) (by decide) (dk_at dkX12_image_3 4 rfl) (fun z72 hz72 => ?_)
                  have rz72 : (0 : Int) ≤ z72 ∧ z72 ≤ 6 := by rw [hz72]; exact hI 14 _
                  have gz72 := Hd.mk hz72
                  have hz72 : z72 = A 14 (4 * (A 0 12) + z15).toNat := hz72.trans (congrFun a_A61_14 _)
                  have ez72 : z72 = z55 := hz72.trans hz55.symm
                  refine lv_icmp_ge (tgt := 119) hx hb (dk_at dkX12_image_3 5 rfl) (by decide) (fun c73 => ?_) (fun c73 => ?_)
                  · have c73 : z72 ≤ z59 := (i_le (rb rz72 (by decide) (by decide)) (rb f66 (by decide) (by decide))).mp c73
                    refine lv_iinc (v := iI (z15 + 1)) (lv' := [(1, .int (iI (z15 + 1))), (2, .int (iI z59)), (0, .ref (q 0))]) hx hb (dk_at dkX12_image_4 4 rfl) hl (k := 1) rfl (i_inc (by omega)) (by decide) rfl (fun ls hl => ?_)
                    refine lv_goto (tgt := 37) hx hb (dk_at dkX12_image_4 5 rfl) (by decide) ?_
                    have r_A61_0_84 : (0 : Int) ≤ (A61 0 84) ∧ (A61 0 84) ≤ 48 := hI 0 84
                    exact ih20 _ (by omega) (z15 + 1) _ _ _ _ (by omega) (by omega) (by omega) (fun zq uq ⟨mm1, mm2, hq⟩ => hk4 _ _ ⟨mm1, mm2, 0 + 1, (u_d_X12_image_4 ⟨gI68.out, ⟨f66, ⟨z69, ghw71, ⟨z72, gz72.out, (Or.inl ⟨c73, hq⟩)⟩⟩⟩⟩)⟩) rfl hI (fr.trans (fr.trans (fr.trans (fr.trans (fr.rf) hj16 rfl rfl) hf51 rfl rfl) hf58 rfl rfl) hj60 rfl rfl) hP hS (lv_sub hl [0, 2] rfl)
                  · have c73 : ¬ z72 ≤ z59 := mt (i_le (rb rz72 (by decide) (by decide)) (rb f66 (by decide) (by decide))).mpr c73
                    refine lv_aload_n hx hb (dk_at dkX12_image_3 6 rfl) rfl (lv_at hl 2 rfl) ?_
                    refine lv_aload_n hx hb (dk_at dkX12_image_3 7 rfl) rfl (lv_at hl 2 rfl) ?_
                    refine va_get (D := (dC, dI)) (ci := 12) (v := .ref (q 15)) (C := RX12) (T := TX12) (N := 85) hx hb hts hiX12 hown hK hP 0 wm0 rfl 26 (by decide) (hts _ (List.mem_cons_of_mem _ wlq_3_7)) (fun _ h9 => h9) rfl (dk_at dkX12_image_3 8 rfl) ?_
                    refine lv_bipush (v := iI 10) hx hb (dk_at dkX12_image_3 9 rfl) (by decide +kernel) ?_
                    refine lv_aload_n hx hb (dk_at dkX12_image_3 10 rfl) rfl (lv_at hl 2 rfl) ?_
                    refine lv_iload_n hx hb (dk_at dkX12_image_3 11 rfl) rfl (lv_at hl 1 rfl) ?_
                    refine x_calli (As := [.int (iI z15)]) (rest := [.int (iI 10), .ref (q 15), .ref (q 0)]) ⟨hx, hb, hml, hown, hts⟩ (mc_X12_key4 l dC dI cB cI cJ cZ cQ q _ z15 hI (by omega)) (cwV 1 hts (goodV wlq_4_44 wlq_4_45 wlq_4_46 wlq_0_8 wlq_4_41) rfl rfl rfl (by decide +kernel) ⟨Nat.le_of_ble_eq_true rfl, Nat.le_of_ble_eq_true rfl⟩) hK hDD hA0 hP hS 0 12 wm0 rfl rfl hl.1 (Nat.le_of_ble_eq_true rfl) (dk_at dkX12_image_3 12 rfl) (fun z74 A75 H locs hw76 hP hS => ?_)
                    obtain ⟨rfl, hw76⟩ := hw76
                    have ghw76 : q_X12_key4 z15 A61 z74 := hw76
                    have hw76 := hw76.2
                    refine tp_i (y := iI (4 * (A 0 12) + z15)) (congrArg iI (show z74 = 4 * (A 0 12) + z15 by omega)) ?_
                    clear hw76
                    refine x_mulv (v := 40 * (A 0 12) + 10 * z15) hx hb (dk_at dkX12_image_3 13 rfl) (by omega) ?_
                    refine lv_iload_n hx hb (dk_at dkX12_image_3 14 rfl) rfl (lv_at hl 0 rfl) ?_
                    refine x_addv (v := 40 * (A 0 12) + 10 * z15 + z59) hx hb (dk_at dkX12_image_3 15 rfl) (by omega) ?_
                    have a_A1_15 : A1 15 = A 15 := by rw [hA1]; exact rfl
                    have a_A4_15 : A4 15 = A 15 := (hj3.1 15 (by decide) rfl).trans a_A1_15
                    have a_A17_15 : A17 15 = A 15 := (hj16.1 15 (by decide) rfl).trans a_A4_15
                    have a_A49_15 : A49 15 = A 15 := (hf51.1 15 (by decide) rfl).trans a_A17_15
                    have a_A56_15 : A56 15 = A 15 := (hf58.1 15 (by decide) rfl).trans a_A49_15
                    have a_A61_15 : A61 15 = A 15 := (hj60.1 15 (by decide) rfl).trans a_A56_15
                    refine x_iald hx hb hK hP 15 1 wm15 rfl (by omega) (by decide) (dk_at dkX12_image_4 0 rfl) (fun z77 hz77 => ?_)
                    have rz77 : (0 : Int) ≤ z77 ∧ z77 ≤ 9 := by rw [hz77]; exact hI 15 _
                    have gz77 := Hd.mk hz77
                    have hz77 : z77 = A 15 (40 * (A 0 12) + 10 * z15 + z59).toNat := hz77.trans (congrFun a_A61_15 _)
                    have r_A61_0_84 : (0 : Int) ≤ (A61 0 84) ∧ (A61 0 84) ≤ 48 := hI 0 84
                    refine x_callv (As := [.int (iI z77)]) (rest := []) ⟨hx, hb, hml, hown, hts⟩ (mc_X12_writes l dC dI cB cI cJ cZ cQ q _ z77 hI (rb rz77 (by decide) (by decide)) (by omega)) (cwV 1 hts (goodV wlq_8_40 wlq_8_41 wlq_8_42 wlq_0_8 wlq_8_36) rfl rfl rfl (by decide +kernel) ⟨Nat.le_of_ble_eq_true rfl, Nat.le_of_ble_eq_true rfl⟩) hK hDD hA0 hP hS 0 12 wm0 rfl rfl hl.1 (Nat.le_of_ble_eq_true rfl) (dk_at dkX12_image_4 1 rfl) (fun A78 H locs hw79 hP hS => ?_)
                    have ghw79 : q_X12_writes z77 A61 A78 := hw79
                    obtain ⟨_, hI, hf80, hw79⟩ := hw79
                    have r_A78_0_84 : (0 : Int) ≤ (A78 0 84) ∧ (A78 0 84) ≤ 48 := hI 0 84
                    refine lv_iinc (v := iI (z59 + 1)) (lv' := [(2, .int (iI (z59 + 1))), (1, .int (iI z15)), (0, .ref (q 0))]) hx hb (dk_at dkX12_image_4 2 rfl) hl (k := 0) rfl (i_inc (by omega)) (by decide) rfl (fun ls hl => ?_)
                    refine lv_goto (tgt := 80) hx hb (dk_at dkX12_image_4 3 rfl) (by decide) ?_
                    exact ih63 _ (by omega) (z59 + 1) _ _ _ _ (by omega) (by omega) (by omega) (fun zq uq ⟨mm1, mm2, mm4, hq⟩ => hk4 _ _ ⟨mm1, mm2, mm4 + 1, (u_d_X12_image_4 ⟨gI68.out, ⟨f66, ⟨z69, ghw71, ⟨z72, gz72.out, (Or.inr ⟨c73, ⟨z74, ghw76, ⟨z77, gz77.out, ⟨A78, ghw79, hq⟩⟩⟩⟩)⟩⟩⟩⟩)⟩) rfl hI (fr.trans (fr.trans (fr.rf) hj60 rfl rfl) hf80 rfl rfl) hP hS (lv_sub hl [0, 1, 2] rfl)
              exact L80_62 _ 0 _ _ _ _ (by omega) (by omega) (by omega) (fun zq uq ⟨mm1, mm2, mm4, hq⟩ => hk2 _ _ ⟨mm1, mm2 + 1, (u_d_X12_image_2 ⟨gI25.out, ⟨f23, ⟨z26, gz26.out, (Or.inr ⟨c27, ⟨z45, ghw47, ⟨z48, gz48.out, ⟨A49, ghw50, ⟨z52, ghw54, ⟨z55, gz55.out, ⟨A56, ghw57, ⟨mm4, hq⟩⟩⟩⟩⟩⟩⟩⟩)⟩⟩⟩)⟩) rfl hI (fr.rf) hP hS (lv_sub hl [0, 1, 2] rfl)
        have r_A4_0_84 : (0 : Int) ≤ (A4 0 84) ∧ (A4 0 84) ≤ 48 := hI 0 84
        exact L37_19 _ 0 _ _ _ _ (by omega) (by omega) (by omega) (fun zq uq ⟨mm1, mm2, hq⟩ => hk1 _ _ ⟨mm1 + 1, (u_d_X12_image_1 ⟨gI12.out, ⟨f10, ⟨z13, gz13.out, (Or.inl ⟨c14, ⟨mm2, hq⟩⟩)⟩⟩⟩)⟩) rfl hI (fr.rf) hP hS (lv_sub hl [0, 1] rfl)
      · have c14 : ¬ z13 ≤ z2 := mt (i_le (rb rz13 (by decide) (by decide)) (rb f10 (by decide) (by decide))).mpr c14
        refine lv_aload_n hx hb (dk_at dkX12_image_0 12 rfl) rfl (lv_at hl 1 rfl) ?_
        refine lv_aload_n hx hb (dk_at dkX12_image_0 13 rfl) rfl (lv_at hl 1 rfl) ?_
        refine lv_iload_n hx hb (dk_at dkX12_image_0 14 rfl) rfl (lv_at hl 0 rfl) ?_
        refine x_calli (As := [.int (iI z2)]) (rest := [.ref (q 0)]) ⟨hx, hb, hml, hown, hts⟩ (mc_X12_placeOf l dC dI cB cI cJ cZ cQ q _ z2 hI (by omega)) (cwV 1 hts (goodV wlq_5_35 wlq_5_36 wlq_5_37 wlq_0_8 wlq_5_25) rfl rfl rfl (by decide +kernel) ⟨Nat.le_of_ble_eq_true rfl, Nat.le_of_ble_eq_true rfl⟩) hK hDD hA0 hP hS 0 12 wm0 rfl rfl hl.1 (Nat.le_of_ble_eq_true rfl) (dk_at dkX12_image_0 15 rfl) (fun z81 A82 H locs hw83 hP hS => ?_)
        obtain ⟨rfl, hw83⟩ := hw83
        have ghw83 : q_X12_placeOf z2 A4 z81 := hw83
        have hw83 := hw83.2
        have r_A4_0_84 : (0 : Int) ≤ (A4 0 84) ∧ (A4 0 84) ≤ 48 := hI 0 84
        refine x_callv (As := [.int (iI z81)]) (rest := []) ⟨hx, hb, hml, hown, hts⟩ (mc_X12_writes l dC dI cB cI cJ cZ cQ q _ z81 hI (rb hw83 (by decide) (by decide)) (by omega)) (cwV 1 hts (goodV wlq_8_40 wlq_8_41 wlq_8_42 wlq_0_8 wlq_8_36) rfl rfl rfl (by decide +kernel) ⟨Nat.le_of_ble_eq_true rfl, Nat.le_of_ble_eq_true rfl⟩) hK hDD hA0 hP hS 0 12 wm0 rfl rfl hl.1 (Nat.le_of_ble_eq_true rfl) (dk_at dkX12_image_1 0 rfl) (fun A84 H locs hw85 hP hS => ?_)
        have ghw85 : q_X12_writes z81 A4 A84 := hw85
        obtain ⟨_, hI, hf86, hw85⟩ := hw85
        have r_A84_0_84 : (0 : Int) ≤ (A84 0 84) ∧ (A84 0 84) ≤ 48 := hI 0 84
        refine lv_iinc (v := iI (z2 + 1)) (lv' := [(1, .int (iI (z2 + 1))), (0, .ref (q 0))]) hx hb (dk_at dkX12_image_1 1 rfl) hl (k := 0) rfl (i_inc (by omega)) (by decide) rfl (fun ls hl => ?_)
        refine lv_goto (tgt := 7) hx hb (dk_at dkX12_image_1 2 rfl) (by decide) ?_
        exact ih7 _ (by omega) (z2 + 1) _ _ _ _ (by omega) (by omega) (by omega) (fun zq uq ⟨mm1, hq⟩ => hk1 _ _ ⟨mm1 + 1, (u_d_X12_image_1 ⟨gI12.out, ⟨f10, ⟨z13, gz13.out, (Or.inr ⟨c14, ⟨z81, ghw83, ⟨A84, ghw85, hq⟩⟩⟩)⟩⟩⟩)⟩) rfl hI (fr.trans (fr.trans (fr.rf) hj3 rfl rfl) hf86 rfl rfl) hP hS (lv_sub hl [0, 1] rfl)
  have e_A1_84 : A1 0 84 = 0 := by rw [hA1]; rfl
  exact L7_6 _ 0 _ _ _ _ (by omega) (by omega) (by omega) (fun zq uq ⟨mm1, hq⟩ => (u_r_X12_image ⟨A1, hA1, ⟨mm1, hq⟩⟩)) rfl hI (fr.rf) hP hS (lv_sub hl [0, 1] rfl)

abbrev tr_r_X12_octet (x1 : Int) (A : St) (z : Int) : Prop := (((x1 < 0) ∧ (z = (-1))) ∨ ((¬ x1 < 0) ∧ ((((A 0 84) ≤ x1) ∧ (z = (-1))) ∨ ((¬ (A 0 84) ≤ x1) ∧ (∃ z3 : Int, z3 = A 57 (x1).toNat ∧ (z = z3))))))
def r_X12_octet (x1 : Int) (A : St) (z : Int) : Prop := tr_r_X12_octet x1 A z
theorem u_r_X12_octet {x1 : Int} {A : St} {z : Int} (h : tr_r_X12_octet x1 A z) : r_X12_octet x1 A z := h
def ws_mc_X12_octet : List Cond := .code yX12_octet cX12_octet 2 (some .int) :: WX
set_option maxHeartbeats 4000000 in
set_option maxRecDepth 100000 in
theorem mc_X12_octet (l : Launch) (dC : Nat → ClassId) (dI : Nat → Nat → Nat) (cB cI cJ cZ cQ : ClassId) (q : Nat → Nat) (A : St) (x1 : Int) (hI : IM A) (hx1 : (-2147483648 : Int) ≤ x1 ∧ x1 ≤ 2147483647) : XMi l yX12_octet ws_mc_X12_octet ({ frames := 0, cells := 0, slots := 0, locals := 0 } : Room) (dC, dI) (tyA cB cI cJ cZ cQ) (WM cI cJ cZ q) A [.ref (q 0), .int (iI x1)] (fun z u => A = u ∧ r_X12_octet x1 A z ∧ (-2147483648 ≤ z ∧ z ≤ 2147483647)) := by
  refine x_meti (cc := cX12_octet) (maxL := 2) WM_adr (by decide +kernel) rfl (Nat.le_of_ble_eq_true rfl) (fun p e s m below meth c Q AS ls hx hb hml hown hts hK hDD hA0 hP hS hl RET => ?_)
  have hown : s.vm.findClass RX12 = some m.cls := hown
  have hl : lv_has ls 2 [(0, .ref (q 0)), (1, .int (iI x1))] := hl
  have hiX12 : ∀ w ∈ u_ws RX12 TX12 85, w ∈ ws_mc_X12_octet := fun w h => List.mem_cons_of_mem _ (wx_lay w h)
  obtain ⟨H, hHe⟩ : ∃ H : Heap, H = s.heap := ⟨_, rfl⟩
  rw [← hHe] at hP
  have hS : va_S AS s.heap H [] := by rw [hHe]; exact hS
  suffices hgo : ∀ locs : List Loc, va_S AS s.heap H locs → W p l e (headSpec ws_mc_X12_octet ({ frames := 0, cells := 0, slots := 0, locals := 0 } : Room)).room s m [.ref (q 0), .int (iI x1)].toArray below meth c H locs 0 0 Q (F0 m 0 ls []) by
    have := hgo [] hS
    rw [hHe] at this
    exact this
  clear hS hHe
  intro locs hS
  refine lv_iload_n hx hb (dk_at dkX12_octet_0 0 rfl) rfl (lv_at hl 1 rfl) ?_
  refine lv_if_lt (tgt := 21) hx hb (dk_at dkX12_octet_0 1 rfl) (by decide) (fun c1 => ?_) (fun c1 => ?_)
  · have c1 : x1 < 0 := (i_lt0 hx1).mp c1
    refine lv_iconst (v := iI (-1)) hx hb (dk_at dkX12_octet_0 11 rfl) (by decide +kernel) ?_
    exact RET (-1) _ _ _ _ _ ⟨rfl, (u_r_X12_octet (Or.inl ⟨c1, rfl⟩)), by omega⟩ hP hS (dk_at dkX12_octet_0 12 rfl)
  · have c1 : ¬ x1 < 0 := mt (i_lt0 hx1).mpr c1
    refine lv_iload_n hx hb (dk_at dkX12_octet_0 2 rfl) rfl (lv_at hl 1 rfl) ?_
    refine lv_aload_n hx hb (dk_at dkX12_octet_0 3 rfl) rfl (lv_at hl 0 rfl) ?_
    refine va_get (D := (dC, dI)) (ci := 12) (v := .int (iI (A 0 84))) (C := RX12) (T := TX12) (N := 85) hx hb hts hiX12 hown hK hP 0 wm0 rfl 84 (by decide) (hts _ (List.mem_cons_of_mem _ wlq_8_38)) (fun _ h9 => h9) rfl (dk_at dkX12_octet_0 4 rfl) ?_
    have r_A_0_84 : (0 : Int) ≤ (A 0 84) ∧ (A 0 84) ≤ 48 := hI 0 84
    refine lv_icmp_ge (tgt := 21) hx hb (dk_at dkX12_octet_0 5 rfl) (by decide) (fun c2 => ?_) (fun c2 => ?_)
    · have c2 : (A 0 84) ≤ x1 := (i_le (rb r_A_0_84 (by decide) (by decide)) hx1).mp c2
      refine lv_iconst (v := iI (-1)) hx hb (dk_at dkX12_octet_0 11 rfl) (by decide +kernel) ?_
      exact RET (-1) _ _ _ _ _ ⟨rfl, (u_r_X12_octet (Or.inr ⟨c1, (Or.inl ⟨c2, rfl⟩)⟩)), by omega⟩ hP hS (dk_at dkX12_octet_0 12 rfl)
    · have c2 : ¬ (A 0 84) ≤ x1 := mt (i_le (rb r_A_0_84 (by decide) (by decide)) hx1).mpr c2
      refine lv_aload_n hx hb (dk_at dkX12_octet_0 6 rfl) rfl (lv_at hl 0 rfl) ?_
      refine va_get (D := (dC, dI)) (ci := 12) (v := .ref (q 57)) (C := RX12) (T := TX12) (N := 85) hx hb hts hiX12 hown hK hP 0 wm0 rfl 83 (by decide) (hts _ (List.mem_cons_of_mem _ wlq_8_37)) (fun _ h9 => h9) rfl (dk_at dkX12_octet_0 7 rfl) ?_
      refine lv_iload_n hx hb (dk_at dkX12_octet_0 8 rfl) rfl (lv_at hl 1 rfl) ?_
      refine x_iald hx hb hK hP 57 1 wm57 rfl (by omega) (by decide) (dk_at dkX12_octet_0 9 rfl) (fun z3 hz3 => ?_)
      have rz3 : (-2147483648 : Int) ≤ z3 ∧ z3 ≤ 2147483647 := by rw [hz3]; exact hI 57 _
      have gz3 := Hd.mk hz3
      have hz3 : z3 = A 57 (x1).toNat := hz3
      refine lv_goto (tgt := 22) hx hb (dk_at dkX12_octet_0 10 rfl) (by decide) ?_
      exact RET z3 _ _ _ _ _ ⟨rfl, (u_r_X12_octet (Or.inr ⟨c1, (Or.inr ⟨c2, ⟨z3, gz3.out, rfl⟩⟩)⟩)), by omega⟩ hP hS (dk_at dkX12_octet_0 12 rfl)

abbrev tr_r_X12_isTest (x1 : Int) (A : St) (z : Int) : Prop := (((x1 = 1) ∧ (z = 1)) ∨ ((¬ x1 = 1) ∧ (((¬ x1 = 5) ∧ (z = 0)) ∨ ((x1 = 5) ∧ (z = 1)))))
def r_X12_isTest (x1 : Int) (A : St) (z : Int) : Prop := tr_r_X12_isTest x1 A z
theorem u_r_X12_isTest {x1 : Int} {A : St} {z : Int} (h : tr_r_X12_isTest x1 A z) : r_X12_isTest x1 A z := h
def q_X12_isTest (x1 : Int) (A : St) (z : Int) : Prop := r_X12_isTest x1 A z ∧ (0 ≤ z ∧ z ≤ 1)
def ws_mc_X12_isTest : List Cond := .code yX12_isTest cX12_isTest 1 (some .boolean) :: WX
set_option maxHeartbeats 4000000 in
set_option maxRecDepth 100000 in
theorem mc_X12_isTest (l : Launch) (dC : Nat → ClassId) (dI : Nat → Nat → Nat) (cB cI cJ cZ cQ : ClassId) (q : Nat → Nat) (A : St) (x1 : Int) (hI : IM A) (hx1 : (-2147483648 : Int) ≤ x1 ∧ x1 ≤ 2147483647) : XMi l yX12_isTest ws_mc_X12_isTest ({ frames := 0, cells := 0, slots := 0, locals := 0 } : Room) (dC, dI) (tyA cB cI cJ cZ cQ) (WM cI cJ cZ q) A [.int (iI x1)] (fun z u => A = u ∧ r_X12_isTest x1 A z ∧ (0 ≤ z ∧ z ≤ 1)) := by
  refine x_metz (cc := cX12_isTest) (maxL := 1) WM_adr (by decide +kernel) rfl (Nat.le_of_ble_eq_true rfl) (fun z u h => h.2.2) (fun p e s m below meth c Q AS ls hx hb hml hown hts hK hDD hA0 hP hS hl RET => ?_)
  have hown : s.vm.findClass RX12 = some m.cls := hown
  have hl : lv_has ls 1 [(0, .int (iI x1))] := hl
  obtain ⟨H, hHe⟩ : ∃ H : Heap, H = s.heap := ⟨_, rfl⟩
  rw [← hHe] at hP
  have hS : va_S AS s.heap H [] := by rw [hHe]; exact hS
  suffices hgo : ∀ locs : List Loc, va_S AS s.heap H locs → W p l e (headSpec ws_mc_X12_isTest ({ frames := 0, cells := 0, slots := 0, locals := 0 } : Room)).room s m [.int (iI x1)].toArray below meth c H locs 0 0 Q (F0 m 0 ls []) by
    have := hgo [] hS
    rw [hHe] at this
    exact this
  clear hS hHe
  intro locs hS
  refine lv_iload_n hx hb (dk_at dkX12_isTest_0 0 rfl) rfl (lv_at hl 0 rfl) ?_
  refine lv_iconst (v := iI 1) hx hb (dk_at dkX12_isTest_0 1 rfl) (by decide +kernel) ?_
  refine lv_icmp_eq (tgt := 10) hx hb (dk_at dkX12_isTest_0 2 rfl) (by decide) (fun c1 => ?_) (fun c1 => ?_)
  · have c1 : x1 = 1 := (i_eq hx1 ⟨by decide, by decide⟩).mp c1
    refine lv_iconst (v := iI 1) hx hb (dk_at dkX12_isTest_0 6 rfl) (by decide +kernel) ?_
    refine lv_goto (tgt := 15) hx hb (dk_at dkX12_isTest_0 7 rfl) (by decide) ?_
    exact RET 1 _ _ _ _ _ ⟨rfl, (u_r_X12_isTest (Or.inl ⟨c1, rfl⟩)), by omega⟩ hP hS (dk_at dkX12_isTest_0 9 rfl)
  · have c1 : ¬ x1 = 1 := mt (i_eq hx1 ⟨by decide, by decide⟩).mpr c1
    refine lv_iload_n hx hb (dk_at dkX12_isTest_0 3 rfl) rfl (lv_at hl 0 rfl) ?_
    refine lv_iconst (v := iI 5) hx hb (dk_at dkX12_isTest_0 4 rfl) (by decide +kernel) ?_
    refine lv_icmp_ne (tgt := 14) hx hb (dk_at dkX12_isTest_0 5 rfl) (by decide) (fun c2 => ?_) (fun c2 => ?_)
    · have c2 : ¬ x1 = 5 := mt (i_eq hx1 ⟨by decide, by decide⟩).mpr c2
      refine lv_iconst (v := iI 0) hx hb (dk_at dkX12_isTest_0 8 rfl) (by decide +kernel) ?_
      exact RET 0 _ _ _ _ _ ⟨rfl, (u_r_X12_isTest (Or.inr ⟨c1, (Or.inl ⟨c2, rfl⟩)⟩)), by omega⟩ hP hS (dk_at dkX12_isTest_0 9 rfl)
    · have c2 : x1 = 5 := (i_eq hx1 ⟨by decide, by decide⟩).mp c2
      refine lv_iconst (v := iI 1) hx hb (dk_at dkX12_isTest_0 6 rfl) (by decide +kernel) ?_
      refine lv_goto (tgt := 15) hx hb (dk_at dkX12_isTest_0 7 rfl) (by decide) ?_
      exact RET 1 _ _ _ _ _ ⟨rfl, (u_r_X12_isTest (Or.inr ⟨c1, (Or.inr ⟨c2, rfl⟩)⟩)), by omega⟩ hP hS (dk_at dkX12_isTest_0 9 rfl)
/-! How many states have been come to. -/
def cn (f : Nat → Int) : Nat → Nat
  | 0 => 0
  | n + 1 => cn f n + (if f n = -1 then 0 else 1)
theorem cn_le (f : Nat → Int) : ∀ n, cn f n ≤ n
  | 0 => Nat.le_refl _
  | n + 1 => by
    have := cn_le f n
    unfold cn
    split <;> omega
theorem cn_lt {f : Nat → Int} {i : Nat} (h : f i = -1) : ∀ n, i < n → cn f n < n
  | 0, hi => by omega
  | n + 1, hi => by
    unfold cn
    by_cases e : i = n
    · subst e
      have := cn_le f i
      rw [if_pos h]
      omega
    · have := cn_lt h n (by omega)
      split <;> omega
theorem cn_out {f : Nat → Int} {i : Nat} {v : Int} : ∀ n, n ≤ i → cn (up f i v) n = cn f n
  | 0, _ => rfl
  | n + 1, h => by
    unfold cn
    rw [cn_out n (by omega), up_ne _ _ (show n ≠ i by omega)]
theorem cn_up {f : Nat → Int} {i : Nat} {v : Int} (h : f i = -1) (hv : v ≠ -1) : ∀ n, i < n → cn (up f i v) n = cn f n + 1
  | 0, hi => by omega
  | n + 1, hi => by
    unfold cn
    by_cases e : i = n
    · subst e
      rw [cn_out i (Nat.le_refl _), up_same, if_neg hv, if_pos h]
    · rw [cn_up h hv n (by omega), up_ne _ _ (show n ≠ i by omega)]
      omega
theorem cn_none {f : Nat → Int} : ∀ n, (∀ i, i < n → f i = -1) → cn f n = 0
  | 0, _ => rfl
  | n + 1, h => by
    unfold cn
    rw [cn_none n (fun i hi => h i (by omega)), if_pos (h n (by omega))]
/-- the queue: as long as the number of states come to; each was come to by no more acts than its place -/
def QI (A : St) : Prop := A 0 66 = (cn (A 47) 76832 : Int) ∧ ∀ j : Nat, (j : Int) < A 0 66 → 0 ≤ A 47 (A 48 j).toNat ∧ A 47 (A 48 j).toNat ≤ (j : Int)
theorem QI.fr {M N : List Nat} {A B : St} (h : QI A) (f : fr M N A B) (h1 : M.contains 47 = false) (h2 : M.contains 48 = false) (h3 : N.contains 66 = false) : QI B := by
  unfold QI
  rw [f.1 47 (by decide) h1, f.1 48 (by decide) h2, f.2 66 h3]
  exact h
theorem QI.room {A : St} (h : QI A) {s : Int} (hs : 0 ≤ s ∧ s ≤ 76831) (ha : A 47 s.toNat = -1) : A 0 66 < 76832 := by
  have := cn_lt ha 76832 (by omega)
  have := h.1
  omega
theorem QI.push0 {A : St} (h : QI A) {s b : Int} (hs : 0 ≤ s ∧ s ≤ 76831) (ha : A 47 s.toNat = -1) (hb : 0 ≤ b ∧ b ≤ A 0 66) : QI (stA (stA (stA A 47 s.toNat b) 48 (A 0 66).toNat s) 0 66 (A 0 66 + 1)) := by
  have h66 : (stA (stA (stA A 47 s.toNat b) 48 (A 0 66).toNat s) 0 66 (A 0 66 + 1)) 0 66 = A 0 66 + 1 := rfl
  have h47 : (stA (stA (stA A 47 s.toNat b) 48 (A 0 66).toNat s) 0 66 (A 0 66 + 1)) 47 = up (A 47) s.toNat b := rfl
  have h48 : (stA (stA (stA A 47 s.toNat b) 48 (A 0 66).toNat s) 0 66 (A 0 66 + 1)) 48 = up (A 48) (A 0 66).toNat s := rfl
  have hq0 : 0 ≤ A 0 66 := by have := h.1; omega
  unfold QI
  rw [h66, h47, h48]
  refine ⟨?_, fun j hj => ?_⟩
  · rw [cn_up ha (by omega) 76832 (by omega)]
    have := h.1
    omega
  · by_cases e : j = (A 0 66).toNat
    · subst e
      rw [up_same, up_same]
      omega
    · rw [up_ne _ _ e]
      have hj' : (j : Int) < A 0 66 := by omega
      have hk := h.2 j hj'
      by_cases e2 : (A 48 j).toNat = s.toNat
      · rw [e2, ha] at hk
        omega
      · rw [up_ne _ _ e2]
        exact hk
theorem QI.push {A : St} (h : QI A) {s b q : Int} (hq : A 0 66 = q) (hs : 0 ≤ s ∧ s ≤ 76831) (ha : A 47 s.toNat = -1) (hb : 0 ≤ b ∧ b ≤ q) : QI (stA (stA (stA A 47 s.toNat b) 48 q.toNat s) 0 66 (q + 1)) := by
  subst hq
  exact QI.push0 h hs ha hb
theorem QI.start {A : St} (h : ∀ i : Nat, i < 76832 → A 47 i = -1) (h0 : A 0 66 = 0) : QI A := by
  refine ⟨?_, fun j hj => by omega⟩
  rw [h0, cn_none 76832 h]
  rfl
theorem dkX12_comes_0 : dkq cX12_comes [(0, .aload_n 0, 1), (1, .invokevirtual 570, 3), (4, .aload_n 0, 1), (5, .invokevirtual 573, 3), (8, .istore_n 2, 1), (9, .aload_n 0, 1), (10, .getfield 208, 3), (13, .iload_n 2, 1), (14, .iaload, 1), (15, .iconst (-1), 1), (16, .if_icmp .eq 4, 3), (19, .return_, 1), (20, .aload_n 0, 1), (21, .getfield 208, 3), (24, .iload_n 2, 1), (25, .iload_n 1, 1)] = true := by decide +kernel
theorem dkX12_comes_1 : dkq cX12_comes [(26, .iastore, 1), (27, .aload_n 0, 1), (28, .getfield 211, 3), (31, .aload_n 0, 1), (32, .getfield 214, 3), (35, .iload_n 2, 1), (36, .iastore, 1), (37, .aload_n 0, 1), (38, .dup, 1), (39, .getfield 214, 3), (42, .iconst 1, 1), (43, .iadd, 1), (44, .putfield 214, 3), (47, .return_, 1)] = true := by decide +kernel
abbrev tr_r_X12_comes (x1 : Int) (A : St) (u : St) : Prop := (∃ A1 : St, q_X12_haves A A1 ∧ (∃ z4 : Int, q_X12_state A1 z4 ∧ (∃ z7 : Int, z7 = A1 47 (z4).toNat ∧ (((z7 = (-1)) ∧ (∃ A9 : St, A9 = (stA (stA (stA A1 47 (z4).toNat x1) 48 ((A 0 66)).toNat z4) 0 66 ((A 0 66) + 1)) ∧ (u = A9))) ∨ ((¬ z7 = (-1)) ∧ (u = A1))))))
def r_X12_comes (x1 : Int) (A : St) (u : St) : Prop := tr_r_X12_comes x1 A u
theorem u_r_X12_comes {x1 : Int} {A : St} {u : St} (h : tr_r_X12_comes x1 A u) : r_X12_comes x1 A u := h
def q_X12_comes (x1 : Int) (A : St) (u : St) : Prop := r_X12_comes x1 A u ∧ IM u ∧ fr [47, 48] [66, 69] A u ∧ (QI u ∧ A 0 66 ≤ u 0 66)
def ws_mc_X12_comes : List Cond := .code yX12_comes cX12_comes 3 none :: WX
set_option maxHeartbeats 4000000 in
set_option maxRecDepth 100000 in
theorem mc_X12_comes (l : Launch) (dC : Nat → ClassId) (dI : Nat → Nat → Nat) (cB cI cJ cZ cQ : ClassId) (q : Nat → Nat) (A : St) (x1 : Int) (hI : IM A) (hx1 : (0 : Int) ≤ x1 ∧ x1 ≤ 76832) (hp0 : QI A) (hp1 : x1 ≤ A 0 66) : XMv l yX12_comes ws_mc_X12_comes ({ frames := 3, cells := 0, slots := 0, locals := 67 } : Room) (dC, dI) (tyA cB cI cJ cZ cQ) (WM cI cJ cZ q) A [.ref (q 0), .int (iI x1)] (fun u => r_X12_comes x1 A u ∧ IM u ∧ fr [47, 48] [66, 69] A u ∧ (QI u ∧ A 0 66 ≤ u 0 66)) := by
  refine x_metv (cc := cX12_comes) (maxL := 3) WM_adr (by decide +kernel) rfl (Nat.le_of_ble_eq_true rfl) (fun p e s m below meth c Q AS ls hx hb hml hown hts hK hDD hA0 hP hS hl RET => ?_)
  have hown : s.vm.findClass RX12 = some m.cls := hown
  have hl : lv_has ls 3 [(0, .ref (q 0)), (1, .int (iI x1))] := hl
  have hiX12 : ∀ w ∈ u_ws RX12 TX12 85, w ∈ ws_mc_X12_comes := fun w h => List.mem_cons_of_mem _ (wx_lay w h)
  obtain ⟨H, hHe⟩ : ∃ H : Heap, H = s.heap := ⟨_, rfl⟩
  rw [← hHe] at hP
  have hS : va_S AS s.heap H [] := by rw [hHe]; exact hS
  suffices hgo : ∀ locs : List Loc, va_S AS s.heap H locs → W p l e (headSpec ws_mc_X12_comes ({ frames := 3, cells := 0, slots := 0, locals := 67 } : Room)).room s m [.ref (q 0), .int (iI x1)].toArray below meth c H locs 0 0 Q (F0 m 0 ls []) by
    have := hgo [] hS
    rw [hHe] at this
    exact this
  clear hS hHe
  intro locs hS
  refine lv_aload_n hx hb (dk_at dkX12_comes_0 0 rfl) rfl (lv_at hl 0 rfl) ?_
  refine x_callv (As := []) (rest := []) ⟨hx, hb, hml, hown, hts⟩ (mc_X12_haves l dC dI cB cI cJ cZ cQ q _ hI) (cwV 0 hts (goodV wlq_6_54 wlq_6_55 wlq_6_56 wlq_0_8 wlq_6_47) rfl rfl rfl (by decide +kernel) ⟨Nat.le_of_ble_eq_true rfl, Nat.le_of_ble_eq_true rfl⟩) hK hDD hA0 hP hS 0 12 wm0 rfl rfl hl.1 (Nat.le_of_ble_eq_true rfl) (dk_at dkX12_comes_0 1 rfl) (fun A1 H locs hw2 hP hS => ?_)
  have ghw2 : q_X12_haves A A1 := hw2
  obtain ⟨_, hI, hf3, hw2⟩ := hw2
  clear hw2
  refine lv_aload_n hx hb (dk_at dkX12_comes_0 2 rfl) rfl (lv_at hl 0 rfl) ?_
  refine x_calli (As := []) (rest := []) ⟨hx, hb, hml, hown, hts⟩ (mc_X12_state l dC dI cB cI cJ cZ cQ q _ hI) (cwV 0 hts (goodV wlq_6_57 wlq_6_58 wlq_6_59 wlq_0_8 wlq_6_37) rfl rfl rfl (by decide +kernel) ⟨Nat.le_of_ble_eq_true rfl, Nat.le_of_ble_eq_true rfl⟩) hK hDD hA0 hP hS 0 12 wm0 rfl rfl hl.1 (Nat.le_of_ble_eq_true rfl) (dk_at dkX12_comes_0 3 rfl) (fun z4 A5 H locs hw6 hP hS => ?_)
  obtain ⟨rfl, hw6⟩ := hw6
  have ghw6 : q_X12_state A1 z4 := hw6
  have hw6 := hw6.2
  refine lv_istore_n (lv' := [(2, .int (iI z4)), (0, .ref (q 0)), (1, .int (iI x1))]) hx hb (dk_at dkX12_comes_0 4 rfl) rfl hl (by decide) rfl (fun ls hl => ?_)
  refine lv_aload_n hx hb (dk_at dkX12_comes_0 5 rfl) rfl (lv_at hl 1 rfl) ?_
  refine va_get (D := (dC, dI)) (ci := 12) (v := .ref (q 47)) (C := RX12) (T := TX12) (N := 85) hx hb hts hiX12 hown hK hP 0 wm0 rfl 64 (by decide) (hts _ (List.mem_cons_of_mem _ wlq_6_51)) (fun _ h9 => h9) rfl (dk_at dkX12_comes_0 6 rfl) ?_
  refine lv_iload_n hx hb (dk_at dkX12_comes_0 7 rfl) rfl (lv_at hl 0 rfl) ?_
  have a_A1_47 : A1 47 = A 47 := (hf3.1 47 (by decide) rfl)
  refine x_iald hx hb hK hP 47 1 wm47 rfl (by omega) (by decide) (dk_at dkX12_comes_0 8 rfl) (fun z7 hz7 => ?_)
  have rz7 : (-1 : Int) ≤ z7 ∧ z7 ≤ 76832 := by rw [hz7]; exact hI 47 _
  have gz7 := Hd.mk hz7
  have hz7 : z7 = A 47 (z4).toNat := hz7.trans (congrFun a_A1_47 _)
  refine lv_iconst (v := iI (-1)) hx hb (dk_at dkX12_comes_0 9 rfl) (by decide +kernel) ?_
  refine lv_icmp_eq (tgt := 20) hx hb (dk_at dkX12_comes_0 10 rfl) (by decide) (fun c8 => ?_) (fun c8 => ?_)
  · have c8 : z7 = (-1) := (i_eq (rb rz7 (by decide) (by decide)) ⟨by decide, by decide⟩).mp c8
    have hroom : A 0 66 < 76832 := QI.room hp0 (s := z4) (by omega) (by omega)
    refine lv_aload_n hx hb (dk_at dkX12_comes_0 12 rfl) rfl (lv_at hl 1 rfl) ?_
    refine va_get (D := (dC, dI)) (ci := 12) (v := .ref (q 47)) (C := RX12) (T := TX12) (N := 85) hx hb hts hiX12 hown hK hP 0 wm0 rfl 64 (by decide) (hts _ (List.mem_cons_of_mem _ wlq_6_51)) (fun _ h9 => h9) rfl (dk_at dkX12_comes_0 13 rfl) ?_
    refine lv_iload_n hx hb (dk_at dkX12_comes_0 14 rfl) rfl (lv_at hl 0 rfl) ?_
    refine lv_iload_n hx hb (dk_at dkX12_comes_0 15 rfl) rfl (lv_at hl 2 rfl) ?_
    refine x_iast hx hb hK hP hDD hS 47 1 wm47 rfl (by omega) (by decide) (dk_at dkX12_comes_1 0 rfl) ws47 (fun H locs hP hS => ?_)
    have hI := hI.st (j := 47) (i := (z4).toNat) (v := x1) (show (-1 : Int) ≤ x1 ∧ x1 ≤ 76832 from (by omega))
    refine lv_aload_n hx hb (dk_at dkX12_comes_1 1 rfl) rfl (lv_at hl 1 rfl) ?_
    refine va_get (D := (dC, dI)) (ci := 12) (v := .ref (q 48)) (C := RX12) (T := TX12) (N := 85) hx hb hts hiX12 hown hK hP 0 wm0 rfl 65 (by decide) (hts _ (List.mem_cons_of_mem _ wlq_6_52)) (fun _ h9 => h9) rfl (dk_at dkX12_comes_1 2 rfl) ?_
    refine lv_aload_n hx hb (dk_at dkX12_comes_1 3 rfl) rfl (lv_at hl 1 rfl) ?_
    have e_A1_66 : A1 0 66 = (A 0 66) := (hf3.2 66 rfl)
    refine va_get (D := (dC, dI)) (ci := 12) (v := .int (iI (A1 0 66))) (C := RX12) (T := TX12) (N := 85) hx hb hts hiX12 hown hK hP 0 wm0 rfl 66 (by decide) (hts _ (List.mem_cons_of_mem _ wlq_6_53)) (fun _ h9 => h9) rfl (dk_at dkX12_comes_1 4 rfl) ?_
    refine tp_i (y := iI (A 0 66)) (congrArg iI e_A1_66) ?_
    have r_A_0_66 : (0 : Int) ≤ (A 0 66) ∧ (A 0 66) ≤ 76832 := by rw [← e_A1_66]; exact hI 0 66
    refine lv_iload_n hx hb (dk_at dkX12_comes_1 5 rfl) rfl (lv_at hl 0 rfl) ?_
    refine x_iast hx hb hK hP hDD hS 48 1 wm48 rfl (by omega) (by decide) (dk_at dkX12_comes_1 6 rfl) ws48 (fun H locs hP hS => ?_)
    have hI := hI.st (j := 48) (i := ((A 0 66)).toNat) (v := z4) (show (0 : Int) ≤ z4 ∧ z4 ≤ 76831 from (by omega))
    refine lv_aload_n hx hb (dk_at dkX12_comes_1 7 rfl) rfl (lv_at hl 1 rfl) ?_
    refine lv_dup hx hb (dk_at dkX12_comes_1 8 rfl) rfl ?_
    refine va_get (D := (dC, dI)) (ci := 12) (v := .int (iI (A1 0 66))) (C := RX12) (T := TX12) (N := 85) hx hb hts hiX12 hown hK hP 0 wm0 rfl 66 (by decide) (hts _ (List.mem_cons_of_mem _ wlq_6_53)) (fun _ h9 => h9) rfl (dk_at dkX12_comes_1 9 rfl) ?_
    refine tp_i (y := iI (A 0 66)) (congrArg iI e_A1_66) ?_
    refine lv_iconst (v := iI 1) hx hb (dk_at dkX12_comes_1 10 rfl) (by decide +kernel) ?_
    refine x_addv (v := (A 0 66) + 1) hx hb (dk_at dkX12_comes_1 11 rfl) (by omega) ?_
    refine x_put (D := (dC, dI)) (ci := 12) (v := .int (iI ((A 0 66) + 1))) (ty := .int) (C := RX12) (T := TX12) (N := 85) hx hb hts hiX12 tyX12 tyX12_ok nmX12 hown hK hP hDD hS 0 wm0 rfl 66 (by decide) (hts _ (List.mem_cons_of_mem _ wlq_6_53)) (fun _ h9 => h9) rfl (by decide +kernel) rfl rfl (Nat.le_of_ble_eq_true rfl) (dk_at dkX12_comes_1 12 rfl) (wf66 (v := (A 0 66) + 1)) (fun H locs hP hS => ?_)
    have hI := hI.st (j := 0) (i := 66) (v := (A 0 66) + 1) (show (0 : Int) ≤ (A 0 66) + 1 ∧ (A 0 66) + 1 ≤ 76832 from (by omega))
    obtain ⟨A9, hA9⟩ : ∃ A9 : St, A9 = (stA (stA (stA A1 47 (z4).toNat x1) 48 ((A 0 66)).toNat z4) 0 66 ((A 0 66) + 1)) := ⟨_, rfl⟩
    rw [← hA9] at hP hI
    have e_A9_66 : A9 0 66 = (A 0 66) + 1 := by rw [hA9]; rfl
    exact RET _ _ _ _ _ ⟨(u_r_X12_comes ⟨A1, ghw2, ⟨z4, ghw6, ⟨z7, gz7.out, (Or.inl ⟨c8, ⟨A9, hA9, rfl⟩⟩)⟩⟩⟩), hI, fr_def hA9 (fr.sf (fr.st (fr.st (fr.trans (fr.rf) hf3 rfl rfl) (by decide) rfl) (by decide) rfl) rfl), ⟨by rw [hA9]; exact QI.push (QI.fr (M := []) (N := [69]) hp0 (fr.trans (fr.rf) hf3 rfl rfl) rfl rfl rfl) e_A1_66 (by omega) (by rw [a_A1_47]; omega) (by omega), by omega⟩⟩ hP hS (dk_at dkX12_comes_1 13 rfl)
  · have c8 : ¬ z7 = (-1) := mt (i_eq (rb rz7 (by decide) (by decide)) ⟨by decide, by decide⟩).mpr c8
    have e_A1_66 : A1 0 66 = (A 0 66) := (hf3.2 66 rfl)
    have r_A_0_66 : (0 : Int) ≤ (A 0 66) ∧ (A 0 66) ≤ 76832 := by rw [← e_A1_66]; exact hI 0 66
    exact RET _ _ _ _ _ ⟨(u_r_X12_comes ⟨A1, ghw2, ⟨z4, ghw6, ⟨z7, gz7.out, (Or.inr ⟨c8, rfl⟩)⟩⟩⟩), hI, fr.trans (fr.rf) hf3 rfl rfl, ⟨QI.fr (M := []) (N := [69]) hp0 (fr.trans (fr.rf) hf3 rfl rfl) rfl rfl rfl, by omega⟩⟩ hP hS (dk_at dkX12_comes_0 11 rfl)
theorem dkX12_losing_0 : dkq cX12_losing [(0, .aload_n 0, 1), (1, .iconst 0, 1), (2, .invokevirtual 394, 3), (5, .ifCond .ne 4, 3), (8, .return_, 1), (9, .aload_n 0, 1), (10, .getfield 36, 3), (13, .ifCond .ne 34, 3), (16, .aload_n 0, 1), (17, .getfield 20, 3), (20, .iconst 1, 1), (21, .if_icmp .ne 26, 3), (24, .aload_n 0, 1), (25, .aload_n 0, 1), (26, .getfield 32, 3), (29, .invokevirtual 387, 3)] = true := by decide +kernel
theorem dkX12_losing_1 : dkq cX12_losing [(32, .ifCond .ne 15, 3), (35, .aload_n 0, 1), (36, .iconst 1, 1), (37, .aload_n 0, 1), (38, .getfield 32, 3), (41, .invokevirtual 390, 3), (44, .goto 4, 3), (47, .iconst (-1), 1), (48, .istore_n 1, 1), (49, .iload_n 1, 1), (50, .iconst (-1), 1), (51, .if_icmp .eq 29, 3), (54, .aload_n 0, 1), (55, .getfield 77, 3), (58, .bipush 10, 2), (60, .aload_n 0, 1)] = true := by decide +kernel
theorem dkX12_losing_2 : dkq cX12_losing [(61, .getfield 155, 3), (64, .imul, 1), (65, .iload_n 1, 1), (66, .iadd, 1), (67, .baload, 1), (68, .ifCond .eq 12, 3), (71, .aload_n 0, 1), (72, .iconst 3, 1), (73, .aload_n 0, 1), (74, .getfield 23, 3), (77, .invokevirtual 286, 3), (80, .aload_n 0, 1), (81, .iconst 1, 1), (82, .invokevirtual 406, 3), (85, .istore_n 1, 1), (86, .aload_n 0, 1)] = true := by decide +kernel
theorem dkX12_losing_3 : dkq cX12_losing [(87, .getfield 36, 3), (90, .ifCond .ne 18, 3), (93, .aload_n 0, 1), (94, .getfield 77, 3), (97, .bipush 10, 2), (99, .aload_n 0, 1), (100, .getfield 155, 3), (103, .imul, 1), (104, .iload_n 1, 1), (105, .iadd, 1), (106, .iconst 1, 1), (107, .bastore, 1), (108, .return_, 1)] = true := by decide +kernel
theorem dkX12_key_0 : dkq cX12_key [(0, .aload_n 0, 1), (1, .aload_n 0, 1), (2, .getfield 80, 3), (5, .aload_n 0, 1), (6, .getfield 155, 3), (9, .iaload, 1), (10, .iconst 4, 1), (11, .if_icmp .ne 7, 3), (14, .iconst 1, 1), (15, .goto 4, 3), (18, .iconst 0, 1), (19, .invokevirtual 394, 3), (22, .ifCond .ne 4, 3), (25, .return_, 1), (26, .iconst 4, 1), (27, .aload_n 0, 1)] = true := by decide +kernel
theorem dkX12_key_1 : dkq cX12_key [(28, .getfield 155, 3), (31, .imul, 1), (32, .aload_n 0, 1), (33, .getfield 80, 3), (36, .aload_n 0, 1), (37, .getfield 155, 3), (40, .iaload, 1), (41, .iadd, 1), (42, .istore_n 1, 1), (43, .aload_n 0, 1), (44, .getfield 83, 3), (47, .iload_n 1, 1), (48, .aload_n 0, 1), (49, .invokevirtual 398, 3), (52, .lastore, 1), (53, .aload_n 0, 1)] = true := by decide +kernel
theorem dkX12_key_2 : dkq cX12_key [(54, .getfield 86, 3), (57, .iload_n 1, 1), (58, .aload_n 0, 1), (59, .invokevirtual 415, 3), (62, .iastore, 1), (63, .aload_n 0, 1), (64, .getfield 89, 3), (67, .iload_n 1, 1), (68, .iconst 0, 1), (69, .iastore, 1), (70, .aload_n 0, 1), (71, .getfield 36, 3), (74, .ifCond .ne 16, 3), (77, .aload_n 0, 1), (78, .getfield 80, 3), (81, .aload_n 0, 1)] = true := by decide +kernel
theorem dkX12_key_3 : dkq cX12_key [(82, .getfield 155, 3), (85, .dup2, 1), (86, .iaload, 1), (87, .iconst 1, 1), (88, .iadd, 1), (89, .iastore, 1), (90, .return_, 1)] = true := by decide +kernel
theorem dkX12_thing_0 : dkq cX12_thing [(0, .aload_n 0, 1), (1, .aload_n 0, 1), (2, .getfield 104, 3), (5, .aload_n 0, 1), (6, .getfield 155, 3), (9, .iaload, 1), (10, .iconst 4, 1), (11, .if_icmp .ne 7, 3), (14, .iconst 1, 1), (15, .goto 4, 3), (18, .iconst 0, 1), (19, .invokevirtual 394, 3), (22, .ifCond .ne 4, 3), (25, .return_, 1), (26, .iconst 4, 1), (27, .aload_n 0, 1)] = true := by decide +kernel
theorem dkX12_thing_1 : dkq cX12_thing [(28, .getfield 155, 3), (31, .imul, 1), (32, .aload_n 0, 1), (33, .getfield 104, 3), (36, .aload_n 0, 1), (37, .getfield 155, 3), (40, .iaload, 1), (41, .iadd, 1), (42, .istore_n 1, 1), (43, .aload_n 0, 1), (44, .getfield 107, 3), (47, .iload_n 1, 1), (48, .aload_n 0, 1), (49, .invokevirtual 398, 3), (52, .lastore, 1), (53, .aload_n 0, 1)] = true := by decide +kernel
theorem dkX12_thing_2 : dkq cX12_thing [(54, .getfield 110, 3), (57, .iload_n 1, 1), (58, .aload_n 0, 1), (59, .invokevirtual 415, 3), (62, .iastore, 1), (63, .aload_n 0, 1), (64, .getfield 36, 3), (67, .ifCond .ne 16, 3), (70, .aload_n 0, 1), (71, .getfield 104, 3), (74, .aload_n 0, 1), (75, .getfield 155, 3), (78, .dup2, 1), (79, .iaload, 1), (80, .iconst 1, 1), (81, .iadd, 1)] = true := by decide +kernel
theorem dkX12_thing_3 : dkq cX12_thing [(82, .iastore, 1), (83, .return_, 1)] = true := by decide +kernel
theorem dkX12_person_0 : dkq cX12_person [(0, .aload_n 0, 1), (1, .aload_n 0, 1), (2, .getfield 95, 3), (5, .aload_n 0, 1), (6, .getfield 155, 3), (9, .iaload, 1), (10, .iconst 3, 1), (11, .if_icmp .ne 7, 3), (14, .iconst 1, 1), (15, .goto 4, 3), (18, .iconst 0, 1), (19, .invokevirtual 394, 3), (22, .ifCond .ne 4, 3), (25, .return_, 1), (26, .iconst 3, 1), (27, .aload_n 0, 1)] = true := by decide +kernel
theorem dkX12_person_1 : dkq cX12_person [(28, .getfield 155, 3), (31, .imul, 1), (32, .aload_n 0, 1), (33, .getfield 95, 3), (36, .aload_n 0, 1), (37, .getfield 155, 3), (40, .iaload, 1), (41, .iadd, 1), (42, .istore_n 1, 1), (43, .aload_n 0, 1), (44, .getfield 98, 3), (47, .iload_n 1, 1), (48, .aload_n 0, 1), (49, .invokevirtual 398, 3), (52, .lastore, 1), (53, .aload_n 0, 1)] = true := by decide +kernel
theorem dkX12_person_2 : dkq cX12_person [(54, .ldc2_w 302, 3), (57, .invokevirtual 402, 3), (60, .aload_n 0, 1), (61, .getfield 101, 3), (64, .iload_n 1, 1), (65, .aload_n 0, 1), (66, .iconst 0, 1), (67, .invokevirtual 406, 3), (70, .iastore, 1), (71, .aload_n 0, 1), (72, .getfield 36, 3), (75, .ifCond .ne 16, 3), (78, .aload_n 0, 1), (79, .getfield 95, 3), (82, .aload_n 0, 1), (83, .getfield 155, 3)] = true := by decide +kernel
theorem dkX12_person_3 : dkq cX12_person [(86, .dup2, 1), (87, .iaload, 1), (88, .iconst 1, 1), (89, .iadd, 1), (90, .iastore, 1), (91, .return_, 1)] = true := by decide +kernel
theorem dkX12_mustBe_0 : dkq cX12_mustBe [(0, .aload_n 0, 1), (1, .aload_n 0, 1), (2, .getfield 122, 3), (5, .aload_n 0, 1), (6, .getfield 155, 3), (9, .iaload, 1), (10, .bipush 6, 2), (12, .if_icmp .ne 7, 3), (15, .iconst 1, 1), (16, .goto 4, 3), (19, .iconst 0, 1), (20, .invokevirtual 394, 3), (23, .ifCond .ne 4, 3), (26, .return_, 1), (27, .bipush 6, 2), (29, .aload_n 0, 1)] = true := by decide +kernel
theorem dkX12_mustBe_1 : dkq cX12_mustBe [(30, .getfield 155, 3), (33, .imul, 1), (34, .aload_n 0, 1), (35, .getfield 122, 3), (38, .aload_n 0, 1), (39, .getfield 155, 3), (42, .iaload, 1), (43, .iadd, 1), (44, .istore_n 1, 1), (45, .aload_n 0, 1), (46, .getfield 125, 3), (49, .iload_n 1, 1), (50, .aload_n 0, 1), (51, .iconst 1, 1), (52, .invokevirtual 406, 3), (55, .iastore, 1)] = true := by decide +kernel
theorem dkX12_mustBe_2 : dkq cX12_mustBe [(56, .aload_n 0, 1), (57, .getfield 128, 3), (60, .iload_n 1, 1), (61, .aload_n 0, 1), (62, .iconst 0, 1), (63, .sipush 1439, 3), (66, .invokevirtual 411, 3), (69, .iastore, 1), (70, .aload_n 0, 1), (71, .getfield 131, 3), (74, .iload_n 1, 1), (75, .aload_n 0, 1), (76, .aload_n 0, 1), (77, .getfield 128, 3), (80, .iload_n 1, 1), (81, .iaload, 1)] = true := by decide +kernel
theorem dkX12_mustBe_3 : dkq cX12_mustBe [(82, .sipush 1439, 3), (85, .invokevirtual 411, 3), (88, .iastore, 1), (89, .aload_n 0, 1), (90, .getfield 36, 3), (93, .ifCond .ne 16, 3), (96, .aload_n 0, 1), (97, .getfield 122, 3), (100, .aload_n 0, 1), (101, .getfield 155, 3), (104, .dup2, 1), (105, .iaload, 1), (106, .iconst 1, 1), (107, .iadd, 1), (108, .iastore, 1), (109, .return_, 1)] = true := by decide +kernel
theorem dkX12_having_0 : dkq cX12_having [(0, .aload_n 0, 1), (1, .iconst 0, 1), (2, .invokevirtual 394, 3), (5, .ifCond .ne 4, 3), (8, .return_, 1), (9, .aload_n 0, 1), (10, .iconst 3, 1), (11, .invokevirtual 406, 3), (14, .istore_n 1, 1), (15, .aload_n 0, 1), (16, .getfield 36, 3), (19, .ifCond .ne 34, 3), (22, .aload_n 0, 1), (23, .getfield 20, 3), (26, .iconst 1, 1), (27, .if_icmp .ne 26, 3)] = true := by decide +kernel
theorem dkX12_having_1 : dkq cX12_having [(30, .aload_n 0, 1), (31, .aload_n 0, 1), (32, .getfield 32, 3), (35, .invokevirtual 387, 3), (38, .ifCond .ne 15, 3), (41, .aload_n 0, 1), (42, .iconst 2, 1), (43, .aload_n 0, 1), (44, .getfield 32, 3), (47, .invokevirtual 390, 3), (50, .goto 4, 3), (53, .iconst (-1), 1), (54, .istore_n 2, 1), (55, .iload_n 2, 1), (56, .iconst (-1), 1), (57, .if_icmp .eq 30, 3)] = true := by decide +kernel
theorem dkX12_having_2 : dkq cX12_having [(60, .aload_n 0, 1), (61, .getfield 86, 3), (64, .iconst 4, 1), (65, .aload_n 0, 1), (66, .getfield 155, 3), (69, .imul, 1), (70, .iload_n 2, 1), (71, .iadd, 1), (72, .iaload, 1), (73, .bipush 10, 2), (75, .if_icmp .ge 12, 3), (78, .aload_n 0, 1), (79, .iconst 3, 1), (80, .aload_n 0, 1), (81, .getfield 23, 3), (84, .invokevirtual 286, 3)] = true := by decide +kernel
theorem dkX12_having_3 : dkq cX12_having [(87, .aload_n 0, 1), (88, .iconst 2, 1), (89, .invokevirtual 406, 3), (92, .istore_n 2, 1), (93, .aload_n 0, 1), (94, .getfield 36, 3), (97, .ifCond .ne 17, 3), (100, .aload_n 0, 1), (101, .getfield 86, 3), (104, .iconst 4, 1), (105, .aload_n 0, 1), (106, .getfield 155, 3), (109, .imul, 1), (110, .iload_n 2, 1), (111, .iadd, 1), (112, .iload_n 1, 1)] = true := by decide +kernel
theorem dkX12_having_4 : dkq cX12_having [(113, .iastore, 1), (114, .return_, 1)] = true := by decide +kernel
theorem dkX12_door_0 : dkq cX12_door [(0, .aload_n 0, 1), (1, .aload_n 0, 1), (2, .getfield 58, 3), (5, .aload_n 0, 1), (6, .getfield 155, 3), (9, .iaload, 1), (10, .bipush 10, 2), (12, .if_icmp .ne 7, 3), (15, .iconst 1, 1), (16, .goto 4, 3), (19, .iconst 0, 1), (20, .invokevirtual 394, 3), (23, .ifCond .ne 4, 3), (26, .return_, 1), (27, .bipush 10, 2), (29, .aload_n 0, 1)] = true := by decide +kernel
theorem dkX12_door_1 : dkq cX12_door [(30, .getfield 155, 3), (33, .imul, 1), (34, .aload_n 0, 1), (35, .getfield 58, 3), (38, .aload_n 0, 1), (39, .getfield 155, 3), (42, .iaload, 1), (43, .iadd, 1), (44, .istore_n 2, 1), (45, .aload_n 0, 1), (46, .getfield 61, 3), (49, .iload_n 2, 1), (50, .aload_n 0, 1), (51, .invokevirtual 398, 3), (54, .lastore, 1), (55, .iload_n 1, 1)] = true := by decide +kernel
theorem dkX12_door_2 : dkq cX12_door [(56, .ifCond .eq 10, 3), (59, .aload_n 0, 1), (60, .ldc2_w 302, 3), (63, .invokevirtual 402, 3), (66, .aload_n 0, 1), (67, .getfield 64, 3), (70, .iload_n 2, 1), (71, .aload_n 0, 1), (72, .iconst 0, 1), (73, .invokevirtual 406, 3), (76, .iastore, 1), (77, .iload_n 1, 1), (78, .ifCond .ne 14, 3), (81, .aload_n 0, 1), (82, .iconst 0, 1), (83, .aload_n 0, 1)] = true := by decide +kernel
theorem dkX12_door_3 : dkq cX12_door [(84, .getfield 64, 3), (87, .iload_n 2, 1), (88, .iaload, 1), (89, .invokevirtual 409, 3), (92, .aload_n 0, 1), (93, .getfield 67, 3), (96, .iload_n 2, 1), (97, .iload_n 1, 1), (98, .ifCond .eq 12, 3), (101, .aload_n 0, 1), (102, .getfield 64, 3), (105, .iload_n 2, 1), (106, .iaload, 1), (107, .goto 8, 3), (110, .aload_n 0, 1), (111, .iconst 0, 1)] = true := by decide +kernel
theorem dkX12_door_4 : dkq cX12_door [(112, .invokevirtual 406, 3), (115, .iastore, 1), (116, .aload_n 0, 1), (117, .getfield 70, 3), (120, .iload_n 2, 1), (121, .iload_n 1, 1), (122, .bastore, 1), (123, .aload_n 0, 1), (124, .getfield 74, 3), (127, .iload_n 2, 1), (128, .iload_n 1, 1), (129, .ifCond .eq 7, 3), (132, .iconst 0, 1), (133, .goto 10, 3), (136, .aload_n 0, 1), (137, .iconst 1, 1)] = true := by decide +kernel
theorem dkX12_door_5 : dkq cX12_door [(138, .bipush 99, 2), (140, .invokevirtual 411, 3), (143, .iastore, 1), (144, .aload_n 0, 1), (145, .getfield 77, 3), (148, .iload_n 2, 1), (149, .iconst 0, 1), (150, .bastore, 1), (151, .aload_n 0, 1), (152, .getfield 36, 3), (155, .ifCond .ne 16, 3), (158, .aload_n 0, 1), (159, .getfield 58, 3), (162, .aload_n 0, 1), (163, .getfield 155, 3), (166, .dup2, 1)] = true := by decide +kernel
theorem dkX12_door_6 : dkq cX12_door [(167, .iaload, 1), (168, .iconst 1, 1), (169, .iadd, 1), (170, .iastore, 1), (171, .return_, 1)] = true := by decide +kernel
/-! Depth of a row of codes. -/
def ds (op : Int) : Int := if op ≤ 9 then 1 else if op = 22 then 0 else -1
def dep (f : Nat → Int) (s : Nat) : Nat → Int
  | 0 => 0
  | n + 1 => dep f s n + ds (f (s + n))
def okc (f : Nat → Int) (s n : Nat) : Prop := f (s + n) ≤ 9 ∨ (f (s + n) = 22 ∧ 1 ≤ dep f s n) ∨ (10 ≤ f (s + n) ∧ f (s + n) ≤ 21 ∧ 2 ≤ dep f s n)
def wfc (f : Nat → Int) (s len : Nat) : Prop := 1 ≤ dep f s len ∧ ∀ n, n < len → okc f s n
theorem dep_out {f : Nat → Int} {s i : Nat} {v : Int} : ∀ n, s + n ≤ i → dep (up f i v) s n = dep f s n
  | 0, _ => rfl
  | n + 1, h => by
    unfold dep
    rw [dep_out n (by omega), up_ne _ _ (show s + n ≠ i by omega)]
theorem okc_out {f : Nat → Int} {s i n : Nat} {v : Int} (h : s + n < i) : okc (up f i v) s n ↔ okc f s n := by
  unfold okc
  rw [dep_out n (by omega), up_ne _ _ (show s + n ≠ i by omega)]
