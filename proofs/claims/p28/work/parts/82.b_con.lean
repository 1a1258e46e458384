abbrev tr_d_X12_town_2 (z5 : Int) (A : St) (A7 : St) (z : Int) (u : St) : Prop := ((((A7 0 8) ≤ 0) ∧ (∃ A27 : St, A27 = (stA (stA (stA (stA A7 0 10 (A7 0 8)) 0 11 (A7 0 9)) 0 12 (-(A 0 12) + 1)) 0 75 0) ∧ (z = z5 ∧ u = A27))) ∨ ((¬ (A7 0 8) ≤ 0) ∧ (∃ A28 : St, A28 = (stA (stA A7 0 10 (A7 0 8)) 0 11 (A7 0 9)) ∧ (∃ z29 : Int, ∃ A30 : St, q_X12_refuses 1 A28 z29 A30 ∧ (z = z29 ∧ u = A30)))))
def d_X12_town_2 (z5 : Int) (A : St) (A7 : St) (z : Int) (u : St) : Prop := tr_d_X12_town_2 z5 A A7 z u
theorem u_d_X12_town_2 {z5 : Int} {A : St} {A7 : St} {z : Int} {u : St} (h : tr_d_X12_town_2 z5 A A7 z u) : d_X12_town_2 z5 A A7 z u := h
abbrev tr_d_X12_town_1 (A : St) (z : Int) (u : St) (K1 : Int → St → Prop) (z5 : Int) (A7 : St) : Prop := ((IM A7) ∧ ((-2147483648 ≤ z5 ∧ z5 ≤ 2147483647) ∧ (((¬ (A7 0 8) = 0) ∧ (d_X12_town_2 z5 A A7 z u)) ∨ (((A7 0 8) = 0) ∧ ((((A7 0 3) = 0) ∧ (d_X12_town_2 z5 A A7 z u)) ∨ ((¬ (A7 0 3) = 0) ∧ (∃ A19 : St, q_X12_statement A7 A19 ∧ (∃ z24 : Int, z24 = oWrap (z5 + 1) ∧ (K1 z24 A19)))))))))
def d_X12_town_1 (A : St) (z : Int) (u : St) : Nat → Int → St → Prop
  | 0, _, _ => False
  | nn9 + 1, z5, A7 => tr_d_X12_town_1 A z u (fun z5 A7 => d_X12_town_1 A z u nn9 z5 A7) z5 A7
theorem u_d_X12_town_1 {A : St} {z : Int} {u : St} {nn9 : Nat} {z5 : Int} {A7 : St} (h : tr_d_X12_town_1 A z u (fun z5 A7 => d_X12_town_1 A z u nn9 z5 A7) z5 A7) : d_X12_town_1 A z u (nn9 + 1) z5 A7 := h
abbrev tr_r_X12_town (A : St) (z : Int) (u : St) : Prop := (∃ A1 : St, A1 = (stA (stA (stA (stA (stA (stA (stA (stA (stA (stA (stA (stA (stA (stA (stA A 0 2 (A 0 1)) 0 1 0) 0 5 0) 0 8 0) 0 9 (-1)) 0 47 (-(A 0 12) + 1)) 2 (-(A 0 12) + 1).toNat 0) 4 (-(A 0 12) + 1).toNat 0) 11 (-(A 0 12) + 1).toNat 0) 16 (-(A 0 12) + 1).toNat 0) 19 (-(A 0 12) + 1).toNat 0) 22 (-(A 0 12) + 1).toNat 0) 25 (-(A 0 12) + 1).toNat 0) 29 (-(A 0 12) + 1).toNat 0) 0 46 0) ∧ (∃ A2 : St, q_X12_ahead A1 A2 ∧ (∃ nn9 : Nat, d_X12_town_1 A z u nn9 0 A2)))
def r_X12_town (A : St) (z : Int) (u : St) : Prop := tr_r_X12_town A z u
theorem u_r_X12_town {A : St} {z : Int} {u : St} (h : tr_r_X12_town A z u) : r_X12_town A z u := h
def q_X12_town (A : St) (z : Int) (u : St) : Prop := r_X12_town A z u ∧ IM u ∧ fr [2, 3, 4, 5, 6, 7, 8, 9, 10, 11, 12, 13, 14, 15, 16, 17, 18, 19, 20, 21, 22, 23, 24, 25, 26, 27, 28, 29, 30, 31, 32, 33, 34, 35, 36, 37, 38, 39, 40, 41] [1, 2, 3, 4, 5, 6, 7, 8, 9, 10, 11, 12, 46, 47, 53, 54, 56, 57, 75] A u ∧ CI u ∧ WI u ∧ ((-2147483648 ≤ z ∧ z ≤ 2147483647) ∧ u 0 1 = 0)
def ws_mb_X12_town : List Cond := .code yX12_town cX12_town 2 (some .int) :: WX
set_option maxHeartbeats 4000000 in
set_option maxRecDepth 100000 in
theorem mb_X12_town (l : Launch) (dC : Nat → ClassId) (dI : Nat → Nat → Nat) (cB cI cJ cZ cQ : ClassId) (q : Nat → Nat) (A : St) (hI : IM A) (hcCI : CI A) (hcWI : WI A) : XMi l yX12_town ws_mb_X12_town ({ frames := 8, cells := 0, slots := 0, locals := 175 } : Room) (dC, dI) (tyA cB cI cJ cZ cQ) (WM cI cJ cZ q) A [.ref (q 0)] (fun z u => r_X12_town A z u ∧ IM u ∧ fr [2, 3, 4, 5, 6, 7, 8, 9, 10, 11, 12, 13, 14, 15, 16, 17, 18, 19, 20, 21, 22, 23, 24, 25, 26, 27, 28, 29, 30, 31, 32, 33, 34, 35, 36, 37, 38, 39, 40, 41] [1, 2, 3, 4, 5, 6, 7, 8, 9, 10, 11, 12, 46, 47, 53, 54, 56, 57, 75] A u ∧ CI u ∧ WI u ∧ ((-2147483648 ≤ z ∧ z ≤ 2147483647) ∧ u 0 1 = 0)) := by
  refine x_meti (cc := cX12_town) (maxL := 2) WM_adr (by decide +kernel) rfl (Nat.le_of_ble_eq_true rfl) (fun p e s m below meth c Q AS ls hx hb hml hown hts hK hDD hA0 hP hS hl RET => ?_)
  have hown : s.vm.findClass RX12 = some m.cls := hown
  have hl : lv_has ls 2 [(0, .ref (q 0))] := hl
  have hiX12 : ∀ w ∈ u_ws RX12 TX12 85, w ∈ ws_mb_X12_town := fun w h => List.mem_cons_of_mem _ (wx_lay w h)
  obtain ⟨H, hHe⟩ : ∃ H : Heap, H = s.heap := ⟨_, rfl⟩
  rw [← hHe] at hP
  have hS : va_S AS s.heap H [] := by rw [hHe]; exact hS
  suffices hgo : ∀ locs : List Loc, va_S AS s.heap H locs → W p l e (headSpec ws_mb_X12_town ({ frames := 8, cells := 0, slots := 0, locals := 175 } : Room)).room s m [.ref (q 0)].toArray below meth c H locs 0 0 Q (F0 m 0 ls []) by
    have := hgo [] hS
    rw [hHe] at this
    exact this
  clear hS hHe
  intro locs hS
  refine lv_aload_n hx hb (dk_at dkX12_town_0 0 rfl) rfl (lv_at hl 0 rfl) ?_
  refine lv_aload_n hx hb (dk_at dkX12_town_0 1 rfl) rfl (lv_at hl 0 rfl) ?_
  refine va_get (D := (dC, dI)) (ci := 12) (v := .int (iI (A 0 1))) (C := RX12) (T := TX12) (N := 85) hx hb hts hiX12 hown hK hP 0 wm0 rfl 1 (by decide) (hts _ (List.mem_cons_of_mem _ wlq_0_3)) (fun _ h9 => h9) rfl (dk_at dkX12_town_0 2 rfl) ?_
  have r_A_0_1 : (0 : Int) ≤ (A 0 1) ∧ (A 0 1) ≤ 1600 := hI 0 1
  refine x_put (D := (dC, dI)) (ci := 12) (v := .int (iI (A 0 1))) (ty := .int) (C := RX12) (T := TX12) (N := 85) hx hb hts hiX12 tyX12 tyX12_ok nmX12 hown hK hP hDD hS 0 wm0 rfl 2 (by decide) (hts _ (List.mem_cons_of_mem _ wlq_0_22)) (fun _ h9 => h9) rfl (by decide +kernel) rfl rfl (Nat.le_of_ble_eq_true rfl) (dk_at dkX12_town_0 3 rfl) (wf2 (v := (A 0 1))) (fun H locs hP hS => ?_)
  have hI := hI.st (j := 0) (i := 2) (v := (A 0 1)) (show (0 : Int) ≤ (A 0 1) ∧ (A 0 1) ≤ 1600 from (by omega))
  refine lv_aload_n hx hb (dk_at dkX12_town_0 4 rfl) rfl (lv_at hl 0 rfl) ?_
  refine lv_iconst (v := iI 0) hx hb (dk_at dkX12_town_0 5 rfl) (by decide +kernel) ?_
  refine x_put (D := (dC, dI)) (ci := 12) (v := .int (iI 0)) (ty := .int) (C := RX12) (T := TX12) (N := 85) hx hb hts hiX12 tyX12 tyX12_ok nmX12 hown hK hP hDD hS 0 wm0 rfl 1 (by decide) (hts _ (List.mem_cons_of_mem _ wlq_0_3)) (fun _ h9 => h9) rfl (by decide +kernel) rfl rfl (Nat.le_of_ble_eq_true rfl) (dk_at dkX12_town_0 6 rfl) (wf1 (v := 0)) (fun H locs hP hS => ?_)
  have hI := hI.st (j := 0) (i := 1) (v := 0) (show (0 : Int) ≤ 0 ∧ 0 ≤ 1600 from (by omega))
  refine lv_aload_n hx hb (dk_at dkX12_town_0 7 rfl) rfl (lv_at hl 0 rfl) ?_
  refine lv_iconst (v := iI 0) hx hb (dk_at dkX12_town_0 8 rfl) (by decide +kernel) ?_
  refine x_put (D := (dC, dI)) (ci := 12) (v := .int (iI 0)) (ty := .int) (C := RX12) (T := TX12) (N := 85) hx hb hts hiX12 tyX12 tyX12_ok nmX12 hown hK hP hDD hS 0 wm0 rfl 5 (by decide) (hts _ (List.mem_cons_of_mem _ wlq_0_21)) (fun _ h9 => h9) rfl (by decide +kernel) rfl rfl (Nat.le_of_ble_eq_true rfl) (dk_at dkX12_town_0 9 rfl) (wf5 (v := 0)) (fun H locs hP hS => ?_)
  have hI := hI.st (j := 0) (i := 5) (v := 0) (show (0 : Int) ≤ 0 ∧ 0 ≤ 1600 from (by omega))
  refine lv_aload_n hx hb (dk_at dkX12_town_0 10 rfl) rfl (lv_at hl 0 rfl) ?_
  refine lv_iconst (v := iI 0) hx hb (dk_at dkX12_town_0 11 rfl) (by decide +kernel) ?_
  refine x_put (D := (dC, dI)) (ci := 12) (v := .int (iI 0)) (ty := .int) (C := RX12) (T := TX12) (N := 85) hx hb hts hiX12 tyX12 tyX12_ok nmX12 hown hK hP hDD hS 0 wm0 rfl 8 (by decide) (hts _ (List.mem_cons_of_mem _ wlq_0_16)) (fun _ h9 => h9) rfl (by decide +kernel) rfl rfl (Nat.le_of_ble_eq_true rfl) (dk_at dkX12_town_0 12 rfl) (wf8 (v := 0)) (fun H locs hP hS => ?_)
  have hI := hI.st (j := 0) (i := 8) (v := 0) (show (0 : Int) ≤ 0 ∧ 0 ≤ 5 from (by omega))
  refine lv_aload_n hx hb (dk_at dkX12_town_0 13 rfl) rfl (lv_at hl 0 rfl) ?_
  refine lv_iconst (v := iI (-1)) hx hb (dk_at dkX12_town_0 14 rfl) (by decide +kernel) ?_
  refine x_put (D := (dC, dI)) (ci := 12) (v := .int (iI (-1))) (ty := .int) (C := RX12) (T := TX12) (N := 85) hx hb hts hiX12 tyX12 tyX12_ok nmX12 hown hK hP hDD hS 0 wm0 rfl 9 (by decide) (hts _ (List.mem_cons_of_mem _ wlq_0_17)) (fun _ h9 => h9) rfl (by decide +kernel) rfl rfl (Nat.le_of_ble_eq_true rfl) (dk_at dkX12_town_0 15 rfl) (wf9 (v := (-1))) (fun H locs hP hS => ?_)
  have hI := hI.st (j := 0) (i := 9) (v := (-1)) (show (-1 : Int) ≤ (-1) ∧ (-1) ≤ 1600 from (by omega))
  refine lv_aload_n hx hb (dk_at dkX12_town_1 0 rfl) rfl (lv_at hl 0 rfl) ?_
  refine lv_iconst (v := iI 1) hx hb (dk_at dkX12_town_1 1 rfl) (by decide +kernel) ?_
  refine lv_aload_n hx hb (dk_at dkX12_town_1 2 rfl) rfl (lv_at hl 0 rfl) ?_
  refine va_get (D := (dC, dI)) (ci := 12) (v := .int (iI (A 0 12))) (C := RX12) (T := TX12) (N := 85) hx hb hts hiX12 hown hK hP 0 wm0 rfl 12 (by decide) (hts _ (List.mem_cons_of_mem _ wlq_4_14)) (fun _ h9 => h9) rfl (dk_at dkX12_town_1 3 rfl) ?_
  have r_A_0_12 : (0 : Int) ≤ (A 0 12) ∧ (A 0 12) ≤ 1 := hI 0 12
  refine x_subv (v := -(A 0 12) + 1) hx hb (dk_at dkX12_town_1 4 rfl) (by omega) ?_
  refine x_put (D := (dC, dI)) (ci := 12) (v := .int (iI (-(A 0 12) + 1))) (ty := .int) (C := RX12) (T := TX12) (N := 85) hx hb hts hiX12 tyX12 tyX12_ok nmX12 hown hK hP hDD hS 0 wm0 rfl 47 (by decide) (hts _ (List.mem_cons_of_mem _ wlq_1_12)) (fun _ h9 => h9) rfl (by decide +kernel) rfl rfl (Nat.le_of_ble_eq_true rfl) (dk_at dkX12_town_1 5 rfl) (wf47 (v := -(A 0 12) + 1)) (fun H locs hP hS => ?_)
  have hI := hI.st (j := 0) (i := 47) (v := -(A 0 12) + 1) (show (0 : Int) ≤ -(A 0 12) + 1 ∧ -(A 0 12) + 1 ≤ 1 from (by omega))
  refine lv_aload_n hx hb (dk_at dkX12_town_1 6 rfl) rfl (lv_at hl 0 rfl) ?_
  refine va_get (D := (dC, dI)) (ci := 12) (v := .ref (q 2)) (C := RX12) (T := TX12) (N := 85) hx hb hts hiX12 hown hK hP 0 wm0 rfl 13 (by decide) (hts _ (List.mem_cons_of_mem _ wlq_1_11)) (fun _ h9 => h9) rfl (dk_at dkX12_town_1 7 rfl) ?_
  refine lv_aload_n hx hb (dk_at dkX12_town_1 8 rfl) rfl (lv_at hl 0 rfl) ?_
  refine va_get (D := (dC, dI)) (ci := 12) (v := .int (iI (-(A 0 12) + 1))) (C := RX12) (T := TX12) (N := 85) hx hb hts hiX12 hown hK hP 0 wm0 rfl 47 (by decide) (hts _ (List.mem_cons_of_mem _ wlq_1_12)) (fun _ h9 => h9) rfl (dk_at dkX12_town_1 9 rfl) ?_
  refine lv_iconst (v := iI 0) hx hb (dk_at dkX12_town_1 10 rfl) (by decide +kernel) ?_
  refine x_iast hx hb hK hP hDD hS 2 1 wm2 rfl (by omega) (by decide) (dk_at dkX12_town_1 11 rfl) ws2 (fun H locs hP hS => ?_)
  have hI := hI.st (j := 2) (i := (-(A 0 12) + 1).toNat) (v := 0) (show (0 : Int) ≤ 0 ∧ 0 ≤ 8 from (by omega))
  refine lv_aload_n hx hb (dk_at dkX12_town_1 12 rfl) rfl (lv_at hl 0 rfl) ?_
  refine va_get (D := (dC, dI)) (ci := 12) (v := .ref (q 4)) (C := RX12) (T := TX12) (N := 85) hx hb hts hiX12 hown hK hP 0 wm0 rfl 15 (by decide) (hts _ (List.mem_cons_of_mem _ wlq_1_13)) (fun _ h9 => h9) rfl (dk_at dkX12_town_1 13 rfl) ?_
  refine lv_aload_n hx hb (dk_at dkX12_town_1 14 rfl) rfl (lv_at hl 0 rfl) ?_
  refine va_get (D := (dC, dI)) (ci := 12) (v := .int (iI (-(A 0 12) + 1))) (C := RX12) (T := TX12) (N := 85) hx hb hts hiX12 hown hK hP 0 wm0 rfl 47 (by decide) (hts _ (List.mem_cons_of_mem _ wlq_1_12)) (fun _ h9 => h9) rfl (dk_at dkX12_town_1 15 rfl) ?_
  refine lv_iconst (v := iI 0) hx hb (dk_at dkX12_town_2 0 rfl) (by decide +kernel) ?_
  refine x_iast hx hb hK hP hDD hS 4 1 wm4 rfl (by omega) (by decide) (dk_at dkX12_town_2 1 rfl) ws4 (fun H locs hP hS => ?_)
  have hI := hI.st (j := 4) (i := (-(A 0 12) + 1).toNat) (v := 0) (show (0 : Int) ≤ 0 ∧ 0 ≤ 10 from (by omega))
  refine lv_aload_n hx hb (dk_at dkX12_town_2 2 rfl) rfl (lv_at hl 0 rfl) ?_
  refine va_get (D := (dC, dI)) (ci := 12) (v := .ref (q 11)) (C := RX12) (T := TX12) (N := 85) hx hb hts hiX12 hown hK hP 0 wm0 rfl 22 (by decide) (hts _ (List.mem_cons_of_mem _ wlq_1_14)) (fun _ h9 => h9) rfl (dk_at dkX12_town_2 3 rfl) ?_
  refine lv_aload_n hx hb (dk_at dkX12_town_2 4 rfl) rfl (lv_at hl 0 rfl) ?_
  refine va_get (D := (dC, dI)) (ci := 12) (v := .int (iI (-(A 0 12) + 1))) (C := RX12) (T := TX12) (N := 85) hx hb hts hiX12 hown hK hP 0 wm0 rfl 47 (by decide) (hts _ (List.mem_cons_of_mem _ wlq_1_12)) (fun _ h9 => h9) rfl (dk_at dkX12_town_2 5 rfl) ?_
  refine lv_iconst (v := iI 0) hx hb (dk_at dkX12_town_2 6 rfl) (by decide +kernel) ?_
  refine x_iast hx hb hK hP hDD hS 11 1 wm11 rfl (by omega) (by decide) (dk_at dkX12_town_2 7 rfl) ws11 (fun H locs hP hS => ?_)
  have hI := hI.st (j := 11) (i := (-(A 0 12) + 1).toNat) (v := 0) (show (0 : Int) ≤ 0 ∧ 0 ≤ 4 from (by omega))
  refine lv_aload_n hx hb (dk_at dkX12_town_2 8 rfl) rfl (lv_at hl 0 rfl) ?_
  refine va_get (D := (dC, dI)) (ci := 12) (v := .ref (q 16)) (C := RX12) (T := TX12) (N := 85) hx hb hts hiX12 hown hK hP 0 wm0 rfl 27 (by decide) (hts _ (List.mem_cons_of_mem _ wlq_1_15)) (fun _ h9 => h9) rfl (dk_at dkX12_town_2 9 rfl) ?_
  refine lv_aload_n hx hb (dk_at dkX12_town_2 10 rfl) rfl (lv_at hl 0 rfl) ?_
  refine va_get (D := (dC, dI)) (ci := 12) (v := .int (iI (-(A 0 12) + 1))) (C := RX12) (T := TX12) (N := 85) hx hb hts hiX12 hown hK hP 0 wm0 rfl 47 (by decide) (hts _ (List.mem_cons_of_mem _ wlq_1_12)) (fun _ h9 => h9) rfl (dk_at dkX12_town_2 11 rfl) ?_
  refine lv_iconst (v := iI 0) hx hb (dk_at dkX12_town_2 12 rfl) (by decide +kernel) ?_
  refine x_iast hx hb hK hP hDD hS 16 1 wm16 rfl (by omega) (by decide) (dk_at dkX12_town_2 13 rfl) ws16 (fun H locs hP hS => ?_)
  have hI := hI.st (j := 16) (i := (-(A 0 12) + 1).toNat) (v := 0) (show (0 : Int) ≤ 0 ∧ 0 ≤ 3 from (by omega))
  refine lv_aload_n hx hb (dk_at dkX12_town_2 14 rfl) rfl (lv_at hl 0 rfl) ?_
  refine va_get (D := (dC, dI)) (ci := 12) (v := .ref (q 19)) (C := RX12) (T := TX12) (N := 85) hx hb hts hiX12 hown hK hP 0 wm0 rfl 30 (by decide) (hts _ (List.mem_cons_of_mem _ wlq_1_16)) (fun _ h9 => h9) rfl (dk_at dkX12_town_2 15 rfl) ?_
  refine lv_aload_n hx hb (dk_at dkX12_town_3 0 rfl) rfl (lv_at hl 0 rfl) ?_
  refine va_get (D := (dC, dI)) (ci := 12) (v := .int (iI (-(A 0 12) + 1))) (C := RX12) (T := TX12) (N := 85) hx hb hts hiX12 hown hK hP 0 wm0 rfl 47 (by decide) (hts _ (List.mem_cons_of_mem _ wlq_1_12)) (fun _ h9 => h9) rfl (dk_at dkX12_town_3 1 rfl) ?_
  refine lv_iconst (v := iI 0) hx hb (dk_at dkX12_town_3 2 rfl) (by decide +kernel) ?_
  refine x_iast hx hb hK hP hDD hS 19 1 wm19 rfl (by omega) (by decide) (dk_at dkX12_town_3 3 rfl) ws19 (fun H locs hP hS => ?_)
  have hI := hI.st (j := 19) (i := (-(A 0 12) + 1).toNat) (v := 0) (show (0 : Int) ≤ 0 ∧ 0 ≤ 4 from (by omega))
  refine lv_aload_n hx hb (dk_at dkX12_town_3 4 rfl) rfl (lv_at hl 0 rfl) ?_
  refine va_get (D := (dC, dI)) (ci := 12) (v := .ref (q 22)) (C := RX12) (T := TX12) (N := 85) hx hb hts hiX12 hown hK hP 0 wm0 rfl 33 (by decide) (hts _ (List.mem_cons_of_mem _ wlq_3_16)) (fun _ h9 => h9) rfl (dk_at dkX12_town_3 5 rfl) ?_
  refine lv_aload_n hx hb (dk_at dkX12_town_3 6 rfl) rfl (lv_at hl 0 rfl) ?_
  refine va_get (D := (dC, dI)) (ci := 12) (v := .int (iI (-(A 0 12) + 1))) (C := RX12) (T := TX12) (N := 85) hx hb hts hiX12 hown hK hP 0 wm0 rfl 47 (by decide) (hts _ (List.mem_cons_of_mem _ wlq_1_12)) (fun _ h9 => h9) rfl (dk_at dkX12_town_3 7 rfl) ?_
  refine lv_iconst (v := iI 0) hx hb (dk_at dkX12_town_3 8 rfl) (by decide +kernel) ?_
  refine x_iast hx hb hK hP hDD hS 22 1 wm22 rfl (by omega) (by decide) (dk_at dkX12_town_3 9 rfl) ws22 (fun H locs hP hS => ?_)
  have hI := hI.st (j := 22) (i := (-(A 0 12) + 1).toNat) (v := 0) (show (0 : Int) ≤ 0 ∧ 0 ≤ 6 from (by omega))
  refine lv_aload_n hx hb (dk_at dkX12_town_3 10 rfl) rfl (lv_at hl 0 rfl) ?_
  refine va_get (D := (dC, dI)) (ci := 12) (v := .ref (q 25)) (C := RX12) (T := TX12) (N := 85) hx hb hts hiX12 hown hK hP 0 wm0 rfl 36 (by decide) (hts _ (List.mem_cons_of_mem _ wlq_3_20)) (fun _ h9 => h9) rfl (dk_at dkX12_town_3 11 rfl) ?_
  refine lv_aload_n hx hb (dk_at dkX12_town_3 12 rfl) rfl (lv_at hl 0 rfl) ?_
  refine va_get (D := (dC, dI)) (ci := 12) (v := .int (iI (-(A 0 12) + 1))) (C := RX12) (T := TX12) (N := 85) hx hb hts hiX12 hown hK hP 0 wm0 rfl 47 (by decide) (hts _ (List.mem_cons_of_mem _ wlq_1_12)) (fun _ h9 => h9) rfl (dk_at dkX12_town_3 13 rfl) ?_
  refine lv_iconst (v := iI 0) hx hb (dk_at dkX12_town_3 14 rfl) (by decide +kernel) ?_
  refine x_iast hx hb hK hP hDD hS 25 1 wm25 rfl (by omega) (by decide) (dk_at dkX12_town_3 15 rfl) ws25 (fun H locs hP hS => ?_)
  have hI := hI.st (j := 25) (i := (-(A 0 12) + 1).toNat) (v := 0) (show (0 : Int) ≤ 0 ∧ 0 ≤ 6 from (by omega))
  refine lv_aload_n hx hb (dk_at dkX12_town_4 0 rfl) rfl (lv_at hl 0 rfl) ?_
  refine va_get (D := (dC, dI)) (ci := 12) (v := .ref (q 29)) (C := RX12) (T := TX12) (N := 85) hx hb hts hiX12 hown hK hP 0 wm0 rfl 40 (by decide) (hts _ (List.mem_cons_of_mem _ wlq_3_25)) (fun _ h9 => h9) rfl (dk_at dkX12_town_4 1 rfl) ?_
  refine lv_aload_n hx hb (dk_at dkX12_town_4 2 rfl) rfl (lv_at hl 0 rfl) ?_
  refine va_get (D := (dC, dI)) (ci := 12) (v := .int (iI (-(A 0 12) + 1))) (C := RX12) (T := TX12) (N := 85) hx hb hts hiX12 hown hK hP 0 wm0 rfl 47 (by decide) (hts _ (List.mem_cons_of_mem _ wlq_1_12)) (fun _ h9 => h9) rfl (dk_at dkX12_town_4 3 rfl) ?_
  refine lv_iconst (v := iI 0) hx hb (dk_at dkX12_town_4 4 rfl) (by decide +kernel) ?_
  refine x_iast hx hb hK hP hDD hS 29 1 wm29 rfl (by omega) (by decide) (dk_at dkX12_town_4 5 rfl) ws29 (fun H locs hP hS => ?_)
  have hI := hI.st (j := 29) (i := (-(A 0 12) + 1).toNat) (v := 0) (show (0 : Int) ≤ 0 ∧ 0 ≤ 6 from (by omega))
  refine lv_aload_n hx hb (dk_at dkX12_town_4 6 rfl) rfl (lv_at hl 0 rfl) ?_
  refine lv_iconst (v := iI 0) hx hb (dk_at dkX12_town_4 7 rfl) (by decide +kernel) ?_
  refine x_put (D := (dC, dI)) (ci := 12) (v := .int (iI 0)) (ty := .int) (C := RX12) (T := TX12) (N := 85) hx hb hts hiX12 tyX12 tyX12_ok nmX12 hown hK hP hDD hS 0 wm0 rfl 46 (by decide) (hts _ (List.mem_cons_of_mem _ wlq_1_31)) (fun _ h9 => h9) rfl (by decide +kernel) rfl rfl (Nat.le_of_ble_eq_true rfl) (dk_at dkX12_town_4 8 rfl) (wf46 (v := 0)) (fun H locs hP hS => ?_)
  have hI := hI.st (j := 0) (i := 46) (v := 0) (show (0 : Int) ≤ 0 ∧ 0 ≤ 1600 from (by omega))
  refine lv_iconst (v := iI 0) hx hb (dk_at dkX12_town_4 9 rfl) (by decide +kernel) ?_
  refine lv_istore_n (lv' := [(1, .int (iI 0)), (0, .ref (q 0))]) hx hb (dk_at dkX12_town_4 10 rfl) rfl hl (by decide) rfl (fun ls hl => ?_)
  refine lv_aload_n hx hb (dk_at dkX12_town_4 11 rfl) rfl (lv_at hl 1 rfl) ?_
  obtain ⟨A1, hA1⟩ : ∃ A1 : St, A1 = (stA (stA (stA (stA (stA (stA (stA (stA (stA (stA (stA (stA (stA (stA (stA A 0 2 (A 0 1)) 0 1 0) 0 5 0) 0 8 0) 0 9 (-1)) 0 47 (-(A 0 12) + 1)) 2 (-(A 0 12) + 1).toNat 0) 4 (-(A 0 12) + 1).toNat 0) 11 (-(A 0 12) + 1).toNat 0) 16 (-(A 0 12) + 1).toNat 0) 19 (-(A 0 12) + 1).toNat 0) 22 (-(A 0 12) + 1).toNat 0) 25 (-(A 0 12) + 1).toNat 0) 29 (-(A 0 12) + 1).toNat 0) 0 46 0) := ⟨_, rfl⟩
  rw [← hA1] at hP hI
  have e_A1_4 : A1 0 4 = (A 0 4) := by rw [hA1]; exact rfl
  have r_A_0_4 : (0 : Int) ≤ (A 0 4) ∧ (A 0 4) ≤ 1600 := by rw [← e_A1_4]; exact hI 0 4
  have e_A1_5 : A1 0 5 = 0 := by rw [hA1]; rfl
  have e_A1_8 : A1 0 8 = 0 := by rw [hA1]; rfl
  have hci0 : CI A1 := CI.zero (n := -(A 0 12) + 1) hcCI (by omega) (by rw [hA1]; rfl) (by rw [hA1]; rfl) (by rw [hA1]; rfl) (by rw [hA1]; rfl) (by rw [hA1]; rfl)
  have hwi0 : WI A1 := WI.zero (n := -(A 0 12) + 1) hcWI (by omega) (by rw [hA1]; rfl) (by rw [hA1]; rfl)
  refine x_callv (As := []) (rest := []) ⟨hx, hb, hml, hown, hts⟩ (mb_X12_ahead l dC dI cB cI cJ cZ cQ q _ hI) (cwV 0 hts (goodV wlq_0_40 wlq_0_41 wlq_0_42 wlq_0_8 wlq_0_20) rfl rfl rfl (by decide +kernel) ⟨Nat.le_of_ble_eq_true rfl, Nat.le_of_ble_eq_true rfl⟩) hK hDD hA0 hP hS 0 12 wm0 rfl rfl hl.1 (Nat.le_of_ble_eq_true rfl) (dk_at dkX12_town_4 12 rfl) (fun A2 H locs hw3 hP hS => ?_)
  have ghw3 : q_X12_ahead A1 A2 := hw3
  obtain ⟨_, hI, hf4, hw3⟩ := hw3
  have r_A2_0_3 : (0 : Int) ≤ (A2 0 3) ∧ (A2 0 3) ≤ 3 := hI 0 3
  have r_A2_0_4 : (0 : Int) ≤ (A2 0 4) ∧ (A2 0 4) ≤ 1600 := hI 0 4
  have r_A2_0_5 : (0 : Int) ≤ (A2 0 5) ∧ (A2 0 5) ≤ 1600 := hI 0 5
  have r_A2_0_8 : (0 : Int) ≤ (A2 0 8) ∧ (A2 0 8) ≤ 5 := hI 0 8
  have e_A1_46 : A1 0 46 = 0 := by rw [hA1]; rfl
  have e_A2_46 : A2 0 46 = 0 := (hf4.2 46 rfl).trans e_A1_46
  have hcb : CB A2 := ⟨by omega, hw3.2.1, hw3.2.2.1⟩
  have L129_8 : ∀ (n10 : Nat) (z5 : Int) (A7 : St) (H : Heap) (locs : List Loc) (ls : Array Slot), (-2147483648 ≤ z5 ∧ z5 ≤ 2147483647) → (Hd ((A7 0 8) = 0 → CB A7)) → (CI A7) → (WI A7) → (∀ (z : Int) (u : St), (∃ mm1 : Nat, (d_X12_town_1 A z u mm1 z5 A7)) → r_X12_town A z u) → ((1602 * (5 - (A7 0 8)) + 1602 - (A7 0 4)).toNat = n10) → IM A7 → fr [2, 3, 4, 5, 6, 7, 8, 9, 10, 11, 12, 13, 14, 15, 16, 17, 18, 19, 20, 21, 22, 23, 24, 25, 26, 27, 28, 29, 30, 31, 32, 33, 34, 35, 36, 37, 38, 39, 40] [3, 4, 5, 6, 7, 8, 9, 46, 53, 54, 56, 57] A2 A7 → va_P (dC, dI) vwCl (WM cI cJ cZ q A7) H → va_S AS s.heap H locs → lv_has ls 2 [(1, .int (iI z5)), (0, .ref (q 0))] → W p l e (headSpec ws_mb_X12_town ({ frames := 8, cells := 0, slots := 0, locals := 175 } : Room)).room s m [.ref (q 0)].toArray below meth c H locs 0 0 Q (F0 m 129 ls []) := by
    intro n10
    induction n10 using Nat.strongRecOn with
    | ind n10 ih9 =>
      intro z5 A7 H locs ls f11 f12 hc13 hc14 hk1 hn10 hI hj6 hP hS hl
      have gI15 : Hd (IM A7) := Hd.mk hI
      have r_A7_0_4 : (0 : Int) ≤ (A7 0 4) ∧ (A7 0 4) ≤ 1600 := hI 0 4
      have r_A7_0_8 : (0 : Int) ≤ (A7 0 8) ∧ (A7 0 8) ≤ 5 := hI 0 8
      have r_A7_0_3 : (0 : Int) ≤ (A7 0 3) ∧ (A7 0 3) ≤ 3 := hI 0 3
      have r_A7_0_5 : (0 : Int) ≤ (A7 0 5) ∧ (A7 0 5) ≤ 1600 := hI 0 5
      refine lv_aload_n hx hb (dk_at dkX12_town_4 13 rfl) rfl (lv_at hl 1 rfl) ?_
      refine va_get (D := (dC, dI)) (ci := 12) (v := .int (iI (A7 0 8))) (C := RX12) (T := TX12) (N := 85) hx hb hts hiX12 hown hK hP 0 wm0 rfl 8 (by decide) (hts _ (List.mem_cons_of_mem _ wlq_0_16)) (fun _ h9 => h9) rfl (dk_at dkX12_town_4 14 rfl) ?_
      have J153_17 : ∀ (H : Heap) (locs : List Loc) (ls : Array Slot), (∀ (z : Int) (u : St), (∃ mm1 : Nat, (d_X12_town_2 z5 A A7 z u)) → r_X12_town A z u) → va_P (dC, dI) vwCl (WM cI cJ cZ q A7) H → va_S AS s.heap H locs → lv_has ls 2 [(1, .int (iI z5)), (0, .ref (q 0))] → W p l e (headSpec ws_mb_X12_town ({ frames := 8, cells := 0, slots := 0, locals := 175 } : Room)).room s m [.ref (q 0)].toArray below meth c H locs 0 0 Q (F0 m 153 ls []) := by
        intro H locs ls hk2 hP hS hl
        refine lv_aload_n hx hb (dk_at dkX12_town_5 7 rfl) rfl (lv_at hl 1 rfl) ?_
        refine lv_aload_n hx hb (dk_at dkX12_town_5 8 rfl) rfl (lv_at hl 1 rfl) ?_
        refine va_get (D := (dC, dI)) (ci := 12) (v := .int (iI (A7 0 8))) (C := RX12) (T := TX12) (N := 85) hx hb hts hiX12 hown hK hP 0 wm0 rfl 8 (by decide) (hts _ (List.mem_cons_of_mem _ wlq_0_16)) (fun _ h9 => h9) rfl (dk_at dkX12_town_5 9 rfl) ?_
        refine x_put (D := (dC, dI)) (ci := 12) (v := .int (iI (A7 0 8))) (ty := .int) (C := RX12) (T := TX12) (N := 85) hx hb hts hiX12 tyX12 tyX12_ok nmX12 hown hK hP hDD hS 0 wm0 rfl 10 (by decide) (hts _ (List.mem_cons_of_mem _ wlq_4_15)) (fun _ h9 => h9) rfl (by decide +kernel) rfl rfl (Nat.le_of_ble_eq_true rfl) (dk_at dkX12_town_5 10 rfl) (wf10 (v := (A7 0 8))) (fun H locs hP hS => ?_)
        have hI := hI.st (j := 0) (i := 10) (v := (A7 0 8)) (show (0 : Int) ≤ (A7 0 8) ∧ (A7 0 8) ≤ 5 from (by omega))
        refine lv_aload_n hx hb (dk_at dkX12_town_5 11 rfl) rfl (lv_at hl 1 rfl) ?_
        refine lv_aload_n hx hb (dk_at dkX12_town_5 12 rfl) rfl (lv_at hl 1 rfl) ?_
        refine va_get (D := (dC, dI)) (ci := 12) (v := .int (iI (A7 0 9))) (C := RX12) (T := TX12) (N := 85) hx hb hts hiX12 hown hK hP 0 wm0 rfl 9 (by decide) (hts _ (List.mem_cons_of_mem _ wlq_0_17)) (fun _ h9 => h9) rfl (dk_at dkX12_town_5 13 rfl) ?_
        have r_A7_0_9 : (-1 : Int) ≤ (A7 0 9) ∧ (A7 0 9) ≤ 1600 := hI 0 9
        refine x_put (D := (dC, dI)) (ci := 12) (v := .int (iI (A7 0 9))) (ty := .int) (C := RX12) (T := TX12) (N := 85) hx hb hts hiX12 tyX12 tyX12_ok nmX12 hown hK hP hDD hS 0 wm0 rfl 11 (by decide) (hts _ (List.mem_cons_of_mem _ wlq_4_16)) (fun _ h9 => h9) rfl (by decide +kernel) rfl rfl (Nat.le_of_ble_eq_true rfl) (dk_at dkX12_town_5 14 rfl) (wf11 (v := (A7 0 9))) (fun H locs hP hS => ?_)
        have hI := hI.st (j := 0) (i := 11) (v := (A7 0 9)) (show (-1 : Int) ≤ (A7 0 9) ∧ (A7 0 9) ≤ 1600 from (by omega))
        refine lv_aload_n hx hb (dk_at dkX12_town_5 15 rfl) rfl (lv_at hl 1 rfl) ?_
        refine va_get (D := (dC, dI)) (ci := 12) (v := .int (iI (A7 0 8))) (C := RX12) (T := TX12) (N := 85) hx hb hts hiX12 hown hK hP 0 wm0 rfl 8 (by decide) (hts _ (List.mem_cons_of_mem _ wlq_0_16)) (fun _ h9 => h9) rfl (dk_at dkX12_town_6 0 rfl) ?_
        refine lv_if_le (tgt := 182) hx hb (dk_at dkX12_town_6 1 rfl) (by decide) (fun c26 => ?_) (fun c26 => ?_)
        · have c26 : (A7 0 8) ≤ 0 := (i_le0 (rb r_A7_0_8 (by decide) (by decide))).mp c26
          refine lv_aload_n hx hb (dk_at dkX12_town_6 6 rfl) rfl (lv_at hl 1 rfl) ?_
          refine lv_aload_n hx hb (dk_at dkX12_town_6 7 rfl) rfl (lv_at hl 1 rfl) ?_
          have e_A1_47 : A1 0 47 = -(A 0 12) + 1 := by rw [hA1]; rfl
          have e_A2_47 : A2 0 47 = -(A 0 12) + 1 := (hf4.2 47 rfl).trans e_A1_47
          have e_A7_47 : A7 0 47 = -(A 0 12) + 1 := (hj6.2 47 rfl).trans e_A2_47
          refine va_get (D := (dC, dI)) (ci := 12) (v := .int (iI (A7 0 47))) (C := RX12) (T := TX12) (N := 85) hx hb hts hiX12 hown hK hP 0 wm0 rfl 47 (by decide) (hts _ (List.mem_cons_of_mem _ wlq_1_12)) (fun _ h9 => h9) rfl (dk_at dkX12_town_6 8 rfl) ?_
          refine tp_i (y := iI (-(A 0 12) + 1)) (congrArg iI e_A7_47) ?_
          refine x_put (D := (dC, dI)) (ci := 12) (v := .int (iI (-(A 0 12) + 1))) (ty := .int) (C := RX12) (T := TX12) (N := 85) hx hb hts hiX12 tyX12 tyX12_ok nmX12 hown hK hP hDD hS 0 wm0 rfl 12 (by decide) (hts _ (List.mem_cons_of_mem _ wlq_4_14)) (fun _ h9 => h9) rfl (by decide +kernel) rfl rfl (Nat.le_of_ble_eq_true rfl) (dk_at dkX12_town_6 9 rfl) (wf12 (v := -(A 0 12) + 1)) (fun H locs hP hS => ?_)
          have hI := hI.st (j := 0) (i := 12) (v := -(A 0 12) + 1) (show (0 : Int) ≤ -(A 0 12) + 1 ∧ -(A 0 12) + 1 ≤ 1 from (by omega))
          refine lv_aload_n hx hb (dk_at dkX12_town_6 10 rfl) rfl (lv_at hl 1 rfl) ?_
          refine lv_iconst (v := iI 0) hx hb (dk_at dkX12_town_6 11 rfl) (by decide +kernel) ?_
          refine x_put (D := (dC, dI)) (ci := 12) (v := .int (iI 0)) (ty := .int) (C := RX12) (T := TX12) (N := 85) hx hb hts hiX12 tyX12 tyX12_ok nmX12 hown hK hP hDD hS 0 wm0 rfl 75 (by decide) (hts _ (List.mem_cons_of_mem _ wlq_4_17)) (fun _ h9 => h9) rfl (by decide +kernel) rfl rfl (Nat.le_of_ble_eq_true rfl) (dk_at dkX12_town_6 12 rfl) (wf75 (v := 0)) (fun H locs hP hS => ?_)
          have hI := hI.st (j := 0) (i := 75) (v := 0) (show (0 : Int) ≤ 0 ∧ 0 ≤ 20 from (by omega))
          refine lv_iload_n hx hb (dk_at dkX12_town_6 13 rfl) rfl (lv_at hl 0 rfl) ?_
          obtain ⟨A27, hA27⟩ : ∃ A27 : St, A27 = (stA (stA (stA (stA A7 0 10 (A7 0 8)) 0 11 (A7 0 9)) 0 12 (-(A 0 12) + 1)) 0 75 0) := ⟨_, rfl⟩
          rw [← hA27] at hP hI
          have e_A1_1 : A1 0 1 = 0 := by rw [hA1]; rfl
          have e_A2_1 : A2 0 1 = 0 := (hf4.2 1 rfl).trans e_A1_1
          have e_A7_1 : A7 0 1 = 0 := (hj6.2 1 rfl).trans e_A2_1
          have e_A27_1 : A27 0 1 = 0 := by rw [hA27]; exact e_A7_1
          exact RET z5 _ _ _ _ _ ⟨hk2 _ _ ⟨0, (u_d_X12_town_2 (Or.inl ⟨c26, ⟨A27, hA27, ⟨rfl, rfl⟩⟩⟩))⟩, hI, fr_def hA27 (fr.sf (fr.sf (fr.sf (fr.sf (fr.trans (fr.trans (fr_def hA1 (fr.sf (fr.st (fr.st (fr.st (fr.st (fr.st (fr.st (fr.st (fr.st (fr.sf (fr.sf (fr.sf (fr.sf (fr.sf (fr.sf (fr.rf) rfl) rfl) rfl) rfl) rfl) rfl) (by decide) rfl) (by decide) rfl) (by decide) rfl) (by decide) rfl) (by decide) rfl) (by decide) rfl) (by decide) rfl) (by decide) rfl) rfl)) hf4 rfl rfl) hj6 rfl rfl) rfl) rfl) rfl) rfl), (CI.fr hc13 (fr_def hA27 (fr.sf (fr.sf (fr.sf (fr.sf (fr.rf (M := []) (N := [10, 11, 12, 75])) rfl) rfl) rfl) rfl)) rfl rfl), (WI.fr hc14 (fr_def hA27 (fr.sf (fr.sf (fr.sf (fr.sf (fr.rf (M := []) (N := [10, 11, 12, 75])) rfl) rfl) rfl) rfl)) rfl rfl), by omega⟩ hP hS (dk_at dkX12_town_6 14 rfl)
        · have c26 : ¬ (A7 0 8) ≤ 0 := mt (i_le0 (rb r_A7_0_8 (by decide) (by decide))).mpr c26
          refine lv_aload_n hx hb (dk_at dkX12_town_6 2 rfl) rfl (lv_at hl 1 rfl) ?_
          refine lv_iconst (v := iI 1) hx hb (dk_at dkX12_town_6 3 rfl) (by decide +kernel) ?_
          obtain ⟨A28, hA28⟩ : ∃ A28 : St, A28 = (stA (stA A7 0 10 (A7 0 8)) 0 11 (A7 0 9)) := ⟨_, rfl⟩
          rw [← hA28] at hP hI
          refine x_calli (As := [.int (iI 1)]) (rest := []) ⟨hx, hb, hml, hown, hts⟩ (mc_X12_refuses l dC dI cB cI cJ cZ cQ q _ 1 hI ⟨by decide, by decide⟩) (cwV 1 hts (goodV wlq_0_5 wlq_0_6 wlq_0_7 wlq_0_8 wlq_0_9) rfl rfl rfl (by decide +kernel) ⟨Nat.le_of_ble_eq_true rfl, Nat.le_of_ble_eq_true rfl⟩) hK hDD hA0 hP hS 0 12 wm0 rfl rfl hl.1 (Nat.le_of_ble_eq_true rfl) (dk_at dkX12_town_6 4 rfl) (fun z29 A30 H locs hw31 hP hS => ?_)
          have ghw31 : q_X12_refuses 1 A28 z29 A30 := hw31
          obtain ⟨_, hI, hf32, hw31⟩ := hw31
          have e_A1_1 : A1 0 1 = 0 := by rw [hA1]; rfl
          have e_A2_1 : A2 0 1 = 0 := (hf4.2 1 rfl).trans e_A1_1
          have e_A7_1 : A7 0 1 = 0 := (hj6.2 1 rfl).trans e_A2_1
          have e_A28_1 : A28 0 1 = 0 := by rw [hA28]; exact e_A7_1
          have e_A30_1 : A30 0 1 = 0 := (hf32.2 1 rfl).trans e_A28_1
          exact RET z29 _ _ _ _ _ ⟨hk2 _ _ ⟨0, (u_d_X12_town_2 (Or.inr ⟨c26, ⟨A28, hA28, ⟨z29, A30, ghw31, ⟨rfl, rfl⟩⟩⟩⟩))⟩, hI, fr.trans (fr_def hA28 (fr.sf (fr.sf (fr.trans (fr.trans (fr_def hA1 (fr.sf (fr.st (fr.st (fr.st (fr.st (fr.st (fr.st (fr.st (fr.st (fr.sf (fr.sf (fr.sf (fr.sf (fr.sf (fr.sf (fr.rf) rfl) rfl) rfl) rfl) rfl) rfl) (by decide) rfl) (by decide) rfl) (by decide) rfl) (by decide) rfl) (by decide) rfl) (by decide) rfl) (by decide) rfl) (by decide) rfl) rfl)) hf4 rfl rfl) hj6 rfl rfl) rfl) rfl)) hf32 rfl rfl, (CI.fr (CI.fr hc13 (fr_def hA28 (fr.sf (fr.sf (fr.rf (M := []) (N := [10, 11])) rfl) rfl)) rfl rfl) hf32 rfl rfl), (WI.fr (WI.fr hc14 (fr_def hA28 (fr.sf (fr.sf (fr.rf (M := []) (N := [10, 11])) rfl) rfl)) rfl rfl) hf32 rfl rfl), by omega⟩ hP hS (dk_at dkX12_town_6 5 rfl)
      refine lv_if_ne (tgt := 153) hx hb (dk_at dkX12_town_4 15 rfl) (by decide) (fun c16 => ?_) (fun c16 => ?_)
      · have c16 : ¬ (A7 0 8) = 0 := mt (i_eq0 (rb r_A7_0_8 (by decide) (by decide))).mpr c16
        exact J153_17 _ _ _ (fun zq uq ⟨mm1, hq⟩ => hk1 _ _ ⟨mm1 + 1, (u_d_X12_town_1 ⟨gI15.out, ⟨f11, (Or.inl ⟨c16, hq⟩)⟩⟩)⟩) hP hS (lv_sub hl [0, 1] rfl)
      · have c16 : (A7 0 8) = 0 := (i_eq0 (rb r_A7_0_8 (by decide) (by decide))).mp c16
        refine lv_aload_n hx hb (dk_at dkX12_town_5 0 rfl) rfl (lv_at hl 1 rfl) ?_
        refine va_get (D := (dC, dI)) (ci := 12) (v := .int (iI (A7 0 3))) (C := RX12) (T := TX12) (N := 85) hx hb hts hiX12 hown hK hP 0 wm0 rfl 3 (by decide) (hts _ (List.mem_cons_of_mem _ wlq_0_24)) (fun _ h9 => h9) rfl (dk_at dkX12_town_5 1 rfl) ?_
        refine lv_if_eq (tgt := 153) hx hb (dk_at dkX12_town_5 2 rfl) (by decide) (fun c18 => ?_) (fun c18 => ?_)
        · have c18 : (A7 0 3) = 0 := (i_eq0 (rb r_A7_0_3 (by decide) (by decide))).mp c18
          exact J153_17 _ _ _ (fun zq uq ⟨mm1, hq⟩ => hk1 _ _ ⟨mm1 + 1, (u_d_X12_town_1 ⟨gI15.out, ⟨f11, (Or.inr ⟨c16, (Or.inl ⟨c18, hq⟩)⟩)⟩⟩)⟩) hP hS (lv_sub hl [0, 1] rfl)
        · have c18 : ¬ (A7 0 3) = 0 := mt (i_eq0 (rb r_A7_0_3 (by decide) (by decide))).mpr c18
          have gcb := f12.out (by omega)
          have hlt := CB.lt gcb (by omega)
          refine lv_aload_n hx hb (dk_at dkX12_town_5 3 rfl) rfl (lv_at hl 1 rfl) ?_
          refine x_callv (As := []) (rest := []) ⟨hx, hb, hml, hown, hts⟩ (mb_X12_statement l dC dI cB cI cJ cZ cQ q _ hI (by exact gcb) hc13 hc14) (cwV 0 hts (goodV wlq_4_18 wlq_4_19 wlq_4_20 wlq_0_8 wlq_3_32) rfl rfl rfl (by decide +kernel) ⟨Nat.le_of_ble_eq_true rfl, Nat.le_of_ble_eq_true rfl⟩) hK hDD hA0 hP hS 0 12 wm0 rfl rfl hl.1 (Nat.le_of_ble_eq_true rfl) (dk_at dkX12_town_5 4 rfl) (fun A19 H locs hw20 hP hS => ?_)
          have ghw20 : q_X12_statement A7 A19 := hw20
          obtain ⟨_, hI, hf21, hw20⟩ := hw20
          obtain ⟨hc22, hw20⟩ := hw20
          obtain ⟨hc23, hw20⟩ := hw20
          have r_A19_0_4 : (0 : Int) ≤ (A19 0 4) ∧ (A19 0 4) ≤ 1600 := hI 0 4
          have r_A19_0_8 : (0 : Int) ≤ (A19 0 8) ∧ (A19 0 8) ≤ 5 := hI 0 8
          obtain ⟨z24, gz24, hz24, ez24⟩ := i_wrapE (z5 + 1)
          refine lv_iinc (v := iI z24) (lv' := [(1, .int (iI z24)), (0, .ref (q 0))]) hx hb (dk_at dkX12_town_5 5 rfl) hl (k := 0) rfl ((i_inc (by omega)).trans ez24) (by decide) rfl (fun ls hl => ?_)
          refine lv_goto (tgt := 129) hx hb (dk_at dkX12_town_5 6 rfl) (by decide) ?_
          have r_A19_0_5 : (0 : Int) ≤ (A19 0 5) ∧ (A19 0 5) ≤ 1600 := hI 0 5
          have gm : A19 0 8 = 0 → A7 0 5 ≤ A19 0 4 := fun h => (hw20.out h).2
          exact ih9 _ (by omega) z24 _ _ _ _ (by omega) (by exact Hd.mk (fun h0 => (hw20.out (by omega)).1)) hc22 hc23 (fun zq uq ⟨mm1, hq⟩ => hk1 _ _ ⟨mm1 + 1, (u_d_X12_town_1 ⟨gI15.out, ⟨f11, (Or.inr ⟨c16, (Or.inr ⟨c18, ⟨A19, ghw20, ⟨z24, gz24.out, hq⟩⟩⟩)⟩)⟩⟩)⟩) rfl hI (fr.trans (fr.trans (fr.rf) hj6 rfl rfl) hf21 rfl rfl) hP hS (lv_sub hl [0, 1] rfl)
  exact L129_8 _ 0 _ _ _ _ (by omega) (by exact Hd.mk (fun _ => hcb)) (CI.fr hci0 hf4 rfl rfl) (WI.fr hwi0 hf4 rfl rfl) (fun zq uq ⟨mm1, hq⟩ => (u_r_X12_town ⟨A1, hA1, ⟨A2, ghw3, ⟨mm1, hq⟩⟩⟩)) rfl hI (fr.rf) hP hS (lv_sub hl [0, 1] rfl)
/-! codes at work; searches -/
theorem okcI {f : Nat → Int} {s len k n z : Int} (hw : wfc f s.toNat len.toNat) (hs : 0 ≤ s) (hk : s ≤ k ∧ k < s + len) (hn : n = dep f s.toNat (k - s).toNat) (hz : z = f k.toNat) : z ≤ 9 ∨ (z = 22 ∧ 1 ≤ n) ∨ (10 ≤ z ∧ z ≤ 21 ∧ 2 ≤ n) := by
  have h := hw.2 (k - s).toNat (by omega)
  unfold okc at h
  have e : s.toNat + (k - s).toNat = k.toNat := by omega
  rw [e, ← hz, ← hn] at h
  exact h
theorem dep_stepI {f : Nat → Int} {s k n n' z : Int} (hs : 0 ≤ s) (hk : s ≤ k) (hn : n = dep f s.toNat (k - s).toNat) (hz : z = f k.toNat) (h : (z ≤ 9 ∧ n' = n + 1) ∨ (z = 22 ∧ n' = n) ∨ (10 ≤ z ∧ z ≤ 21 ∧ n' = n - 1)) : n' = dep f s.toNat (k + 1 - s).toNat := by
  have e1 : (k + 1 - s).toNat = (k - s).toNat + 1 := by omega
  have e : s.toNat + (k - s).toNat = k.toNat := by omega
  rw [e1]
  show n' = dep f s.toNat (k - s).toNat + ds (f (s.toNat + (k - s).toNat))
  rw [e, ← hz, ← hn]
  unfold ds
  rcases h with ⟨a, b⟩ | ⟨a, b⟩ | ⟨a, b, d⟩
  · rw [if_pos a]
    omega
  · rw [if_neg (by omega), if_pos a]
    omega
  · rw [if_neg (by omega), if_neg (by omega)]
    omega
theorem CI.at {A : St} (h : CI A) (hI : IM A) {k x y : Int} (hk : 6 * A 0 12 ≤ k ∧ k < 6 * A 0 12 + A 29 (A 0 12).toNat) (hx : x = A 31 k.toNat) (hy : y = A 32 k.toNat) : x ≤ y ∧ wfc (A 33) (1600 * A 0 12 + x).toNat (y - x).toNat := by
  have r1 : (0 : Int) ≤ A 0 12 := (hI 0 12).1
  have r2 : A 0 12 ≤ 1 := (hI 0 12).2
  have g := h (A 0 12).toNat (k - 6 * A 0 12).toNat (by omega) (by omega)
  have e : 6 * (A 0 12).toNat + (k - 6 * A 0 12).toNat = k.toNat := by omega
  rw [e, ← hx, ← hy] at g
  have r3 : (0 : Int) ≤ x := by rw [hx]; exact (hI 31 _).1
  have e2 : (1600 * A 0 12 + x).toNat = 1600 * (A 0 12).toNat + x.toNat := by omega
  rw [e2]
  exact ⟨g.1, g.2.2⟩
theorem ct_mono {f : Nat → Int} {s : Nat} {p : Int} {n : Nat} : ∀ m, ct f s p n ≤ ct f s p (n + m)
  | 0 => Int.le_refl _
  | m + 1 => by
    have := ct_mono (f := f) (s := s) (p := p) (n := n) m
    have e : ct f s p (n + (m + 1)) = ct f s p (n + m) + (if f (s + (n + m)) = p then 1 else 0) := rfl
    rw [e]
    split <;> omega
/-- a want that is found is one of two -/
theorem WI.two {A : St} (h : WI A) (hI : IM A) {k m p : Int} (hk : 6 * A 0 12 ≤ k ∧ k < 6 * A 0 12 + A 22 (A 0 12).toNat) (hm : m = ct (A 23) (6 * A 0 12).toNat p (k - 6 * A 0 12).toNat) (hp : A 23 k.toNat = p) : m ≤ 1 := by
  have r1 : (0 : Int) ≤ A 0 12 := (hI 0 12).1
  have r2 : A 0 12 ≤ 1 := (hI 0 12).2
  have g := h.le (b := A 0 12) ⟨r1, r2⟩ p
  have g2 := ct_stepI (f := A 23) (p := p) (b := 6 * A 0 12) (i := k) (m := m) (m' := m + 1) (by omega) hk.1 hm (Or.inl ⟨hp, rfl⟩)
  have g3 := ct_mono (f := A 23) (s := (6 * A 0 12).toNat) (p := p) (n := (k + 1 - 6 * A 0 12).toNat) ((A 22 (A 0 12).toNat).toNat - (k + 1 - 6 * A 0 12).toNat)
  have e : (k + 1 - 6 * A 0 12).toNat + ((A 22 (A 0 12).toNat).toNat - (k + 1 - 6 * A 0 12).toNat) = (A 22 (A 0 12).toNat).toNat := by omega
  rw [e, ← g2] at g3
  omega
theorem all_step {f g : Nat → Int} {k : Int} (hk : 0 ≤ k) (h : ∀ i : Nat, (i : Int) < k → f i = -1) (hg : g = up f k.toNat (-1)) : ∀ i : Nat, (i : Int) < k + 1 → g i = -1 := by
  intro i hi
  rw [hg]
  by_cases e : i = k.toNat
  · rw [e, up_same]
  · rw [up_ne _ _ e]
    exact h i (by omega)
theorem dkX12_works_0 : dkq cX12_works [(0, .iconst 0, 1), (1, .istore_n 3, 1), (2, .sipush 1600, 3), (5, .aload_n 0, 1), (6, .getfield 48, 3), (9, .imul, 1), (10, .iload_n 1, 1), (11, .iadd, 1), (12, .istore 4, 2), (14, .iload 4, 2), (16, .sipush 1600, 3), (19, .aload_n 0, 1), (20, .getfield 48, 3), (23, .imul, 1), (24, .iload_n 2, 1), (25, .iadd, 1)] = true := by decide +kernel
theorem dkX12_works_1 : dkq cX12_works [(26, .if_icmp .ge 130, 3), (29, .aload_n 0, 1), (30, .getfield 146, 3), (33, .iload 4, 2), (35, .iaload, 1), (36, .istore 5, 2), (38, .iload 5, 2), (40, .bipush 9, 2), (42, .if_icmp .gt 50, 3), (45, .aload_n 0, 1), (46, .getfield 192, 3), (49, .iload_n 3, 1), (50, .iload 5, 2), (52, .ifCond .ne 14, 3), (55, .aload_n 0, 1), (56, .getfield 149, 3)] = true := by decide +kernel
theorem dkX12_works_2 : dkq cX12_works [(59, .iload 4, 2), (61, .iaload, 1), (62, .i2l, 1), (63, .goto 22, 3), (66, .iload 5, 2), (68, .bipush 9, 2), (70, .if_icmp .ne 7, 3), (73, .lconst 1, 1), (74, .goto 11, 3), (77, .aload_n 0, 1), (78, .getfield 195, 3), (81, .iload 5, 2), (83, .iaload, 1), (84, .i2l, 1), (85, .lastore, 1), (86, .iinc 3 1, 3)] = true := by decide +kernel
theorem dkX12_works_3 : dkq cX12_works [(89, .goto 61, 3), (92, .iload 5, 2), (94, .bipush 22, 2), (96, .if_icmp .ne 24, 3), (99, .aload_n 0, 1), (100, .getfield 192, 3), (103, .iload_n 3, 1), (104, .iconst 1, 1), (105, .isub, 1), (106, .lconst 1, 1), (107, .aload_n 0, 1), (108, .getfield 192, 3), (111, .iload_n 3, 1), (112, .iconst 1, 1), (113, .isub, 1), (114, .laload, 1)] = true := by decide +kernel
theorem dkX12_works_4 : dkq cX12_works [(115, .lsub, 1), (116, .lastore, 1), (117, .goto 33, 3), (120, .iinc 3 (-1), 3), (123, .aload_n 0, 1), (124, .getfield 192, 3), (127, .iload_n 3, 1), (128, .iconst 1, 1), (129, .isub, 1), (130, .iload 5, 2), (132, .aload_n 0, 1), (133, .getfield 192, 3), (136, .iload_n 3, 1), (137, .iconst 1, 1), (138, .isub, 1), (139, .laload, 1)] = true := by decide +kernel
theorem dkX12_works_5 : dkq cX12_works [(140, .aload_n 0, 1), (141, .getfield 192, 3), (144, .iload_n 3, 1), (145, .laload, 1), (146, .invokestatic 480, 3), (149, .lastore, 1), (150, .iinc 4 1, 3), (153, .goto (-139), 3), (156, .aload_n 0, 1), (157, .getfield 192, 3), (160, .iconst 0, 1), (161, .laload, 1), (162, .lreturn, 1)] = true := by decide +kernel
theorem dkX12_isBarred_0 : dkq cX12_isBarred [(0, .aload_n 0, 1), (1, .getfield 195, 3), (4, .iconst 1, 1), (5, .iload_n 2, 1), (6, .iastore, 1), (7, .aload_n 0, 1), (8, .getfield 195, 3), (11, .iconst 2, 1), (12, .iload_n 3, 1), (13, .iastore, 1), (14, .aload_n 0, 1), (15, .getfield 195, 3), (18, .iconst 3, 1), (19, .iload 4, 2), (21, .iastore, 1), (22, .aload_n 0, 1)] = true := by decide +kernel
theorem dkX12_isBarred_1 : dkq cX12_isBarred [(23, .getfield 195, 3), (26, .iconst 4, 1), (27, .iload 5, 2), (29, .iastore, 1), (30, .bipush 6, 2), (32, .aload_n 0, 1), (33, .getfield 48, 3), (36, .imul, 1), (37, .istore 6, 2), (39, .iload 6, 2), (41, .bipush 6, 2), (43, .aload_n 0, 1), (44, .getfield 48, 3), (47, .imul, 1), (48, .aload_n 0, 1), (49, .getfield 134, 3)] = true := by decide +kernel
theorem dkX12_isBarred_2 : dkq cX12_isBarred [(52, .aload_n 0, 1), (53, .getfield 48, 3), (56, .iaload, 1), (57, .iadd, 1), (58, .if_icmp .ge 45, 3), (61, .aload_n 0, 1), (62, .getfield 137, 3), (65, .iload 6, 2), (67, .iaload, 1), (68, .iload_n 1, 1), (69, .if_icmp .ne 28, 3), (72, .aload_n 0, 1), (73, .aload_n 0, 1), (74, .getfield 140, 3), (77, .iload 6, 2), (79, .iaload, 1)] = true := by decide +kernel
theorem dkX12_isBarred_3 : dkq cX12_isBarred [(80, .aload_n 0, 1), (81, .getfield 143, 3), (84, .iload 6, 2), (86, .iaload, 1), (87, .invokevirtual 516, 3), (90, .lconst 1, 1), (91, .lcmp, 1), (92, .ifCond .ne 5, 3), (95, .iconst 1, 1), (96, .ireturn, 1), (97, .iinc 6 1, 3), (100, .goto (-61), 3), (103, .iconst 0, 1), (104, .ireturn, 1)] = true := by decide +kernel
theorem dkX12_gone_0 : dkq cX12_gone [(0, .aload_n 0, 1), (1, .iload_n 1, 1), (2, .invokevirtual 520, 3), (5, .istore_n 3, 1), (6, .aload_n 0, 1), (7, .getfield 70, 3), (10, .aload_n 0, 1), (11, .iload_n 2, 1), (12, .invokevirtual 487, 3), (15, .baload, 1), (16, .ifCond .ne 42, 3), (19, .aload_n 0, 1), (20, .iload_n 3, 1), (21, .iload_n 2, 1), (22, .invokevirtual 523, 3), (25, .ifCond .eq 33, 3)] = true := by decide +kernel
theorem dkX12_gone_1 : dkq cX12_gone [(28, .aload_n 0, 1), (29, .iload_n 2, 1), (30, .invokevirtual 493, 3), (33, .ifCond .ne 25, 3), (36, .aload_n 0, 1), (37, .iload_n 2, 1), (38, .iload_n 1, 1), (39, .iload_n 3, 1), (40, .aload_n 0, 1), (41, .iload_n 1, 1), (42, .invokevirtual 526, 3), (45, .invokestatic 529, 3), (48, .aload_n 0, 1), (49, .invokevirtual 496, 3), (52, .invokevirtual 532, 3), (55, .ifCond .eq 5, 3)] = true := by decide +kernel
theorem dkX12_gone_2 : dkq cX12_gone [(58, .iconst (-1), 1), (59, .ireturn, 1), (60, .aload_n 0, 1), (61, .getfield 101, 3), (64, .iconst 3, 1), (65, .aload_n 0, 1), (66, .getfield 48, 3), (69, .imul, 1), (70, .iload_n 1, 1), (71, .iadd, 1), (72, .aload_n 0, 1), (73, .iload_n 2, 1), (74, .iload_n 3, 1), (75, .invokevirtual 536, 3), (78, .iastore, 1), (79, .aload_n 0, 1)] = true := by decide +kernel
theorem dkX12_gone_3 : dkq cX12_gone [(80, .iload_n 1, 1), (81, .invokevirtual 520, 3), (84, .ireturn, 1)] = true := by decide +kernel
theorem dkX12_go_0 : dkq cX12_go [(0, .aload_n 0, 1), (1, .iload_n 1, 1), (2, .invokevirtual 539, 3), (5, .ifCond .eq 20, 3), (8, .aload_n 0, 1), (9, .iload_n 2, 1), (10, .invokevirtual 507, 3), (13, .ifCond .eq 12, 3), (16, .aload_n 0, 1), (17, .iload_n 1, 1), (18, .iload_n 2, 1), (19, .invokevirtual 542, 3), (22, .goto 4, 3), (25, .iconst (-1), 1), (26, .istore_n 3, 1), (27, .iload_n 3, 1)] = true := by decide +kernel
theorem dkX12_go_1 : dkq cX12_go [(28, .iconst (-1), 1), (29, .if_icmp .ne 11, 3), (32, .aload_n 0, 1), (33, .iconst 2, 1), (34, .invokevirtual 271, 3), (37, .goto 4, 3), (40, .iload_n 3, 1), (41, .ireturn, 1)] = true := by decide +kernel
theorem dkX12_told_0 : dkq cX12_told [(0, .aload_n 0, 1), (1, .iload_n 1, 1), (2, .invokevirtual 539, 3), (5, .ifCond .ne 5, 3), (8, .iconst (-1), 1), (9, .ireturn, 1), (10, .iload_n 2, 1), (11, .ifCond .ne 22, 3), (14, .aload_n 0, 1), (15, .iload_n 3, 1), (16, .invokevirtual 507, 3), (19, .ifCond .eq 12, 3), (22, .aload_n 0, 1), (23, .iload_n 1, 1), (24, .iload_n 3, 1), (25, .invokevirtual 542, 3)] = true := by decide +kernel
theorem dkX12_told_1 : dkq cX12_told [(28, .goto 4, 3), (31, .iconst (-1), 1), (32, .ireturn, 1), (33, .iload_n 2, 1), (34, .iconst 1, 1), (35, .if_icmp .ne 22, 3), (38, .aload_n 0, 1), (39, .iload_n 3, 1), (40, .invokevirtual 510, 3), (43, .ifCond .eq 12, 3), (46, .aload_n 0, 1), (47, .iload_n 1, 1), (48, .iload_n 3, 1), (49, .invokevirtual 545, 3), (52, .goto 4, 3), (55, .iconst (-1), 1)] = true := by decide +kernel
theorem dkX12_told_2 : dkq cX12_told [(56, .ireturn, 1), (57, .iload_n 2, 1), (58, .iconst 2, 1), (59, .if_icmp .ne 20, 3), (62, .aload_n 0, 1), (63, .iload_n 3, 1), (64, .invokevirtual 507, 3), (67, .ifCond .eq 12, 3), (70, .aload_n 0, 1), (71, .iload_n 1, 1), (72, .iload_n 3, 1), (73, .invokevirtual 555, 3), (76, .goto 4, 3), (79, .iconst (-1), 1), (80, .istore 4, 2), (82, .iload 4, 2)] = true := by decide +kernel
theorem dkX12_told_3 : dkq cX12_told [(84, .iconst (-1), 1), (85, .if_icmp .ne 7, 3), (88, .iconst (-1), 1), (89, .goto 11, 3), (92, .aload_n 0, 1), (93, .iload_n 1, 1), (94, .iload 4, 2), (96, .iload_n 3, 1), (97, .invokevirtual 548, 3), (100, .ireturn, 1)] = true := by decide +kernel
theorem dkX12_row_0 : dkq cX12_row [(0, .aload_n 0, 1), (1, .getfield 13, 3), (4, .istore_n 1, 1), (5, .aload_n 0, 1), (6, .iconst 0, 1), (7, .putfield 13, 3), (10, .aload_n 0, 1), (11, .invokevirtual 558, 3), (14, .iconst (-1), 1), (15, .istore_n 2, 1), (16, .iconst 0, 1), (17, .istore_n 3, 1), (18, .iload_n 3, 1), (19, .iload_n 1, 1), (20, .if_icmp .ge 67, 3), (23, .iload_n 2, 1)] = true := by decide +kernel
theorem dkX12_row_1 : dkq cX12_row [(24, .iconst (-1), 1), (25, .if_icmp .ne 62, 3), (28, .iload_n 3, 1), (29, .iconst 3, 1), (30, .iadd, 1), (31, .iload_n 1, 1), (32, .if_icmp .gt 32, 3), (35, .aload_n 0, 1), (36, .aload_n 0, 1), (37, .getfield 7, 3), (40, .iload_n 3, 1), (41, .iaload, 1), (42, .aload_n 0, 1), (43, .getfield 7, 3), (46, .iload_n 3, 1), (47, .iconst 1, 1)] = true := by decide +kernel
theorem dkX12_row_2 : dkq cX12_row [(48, .iadd, 1), (49, .iaload, 1), (50, .aload_n 0, 1), (51, .getfield 7, 3), (54, .iload_n 3, 1), (55, .iconst 2, 1), (56, .iadd, 1), (57, .iaload, 1), (58, .invokevirtual 561, 3), (61, .goto 4, 3), (64, .iconst (-1), 1), (65, .istore 4, 2), (67, .iload 4, 2), (69, .iconst (-1), 1), (70, .if_icmp .ne 9, 3), (73, .iload_n 3, 1)] = true := by decide +kernel
theorem dkX12_row_3 : dkq cX12_row [(74, .iconst 3, 1), (75, .idiv, 1), (76, .goto 4, 3), (79, .iconst (-1), 1), (80, .istore_n 2, 1), (81, .iinc 3 3, 3), (84, .goto (-66), 3), (87, .aload_n 0, 1), (88, .invokevirtual 564, 3), (91, .iload_n 2, 1), (92, .ireturn, 1)] = true := by decide +kernel
