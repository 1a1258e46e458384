abbrev tr_d_X12_town_2 (z5 : Int) (A : St) (A7 : St) (z : Int) (u : St) : Prop := ((((A7 0 8) ≤ 0) ∧ (∃ A27 : St, A27 = (stA (stA (stA (stA A7 0 10 (A7 0 8)) 0 11 (A7 0 9)) 0 12 (-(A 0 12) + 1)) 0 75 0) ∧ (z = z5 ∧ u = A27))) ∨ ((¬ (A7 0 8) ≤ 0) ∧ (∃ A28 : St, A28 = (stA (stA A7 0 10 (A7 0 8)) 0 11 (A7 0 9)) ∧ (∃ z29 : Int, ∃ A30 : St, q_X12_refuses 1 A28 z29 A30 ∧ (z = z29 ∧ u = A30)))))
def d_X12_town_2 (z5 : Int) (A : St) (A7 : St) (z : Int) (u : St) : Prop := tr_d_X12_town_2 z5 A A7 z u
theorem u_d_X12_town_2 {z5 : Int} {A : St} {A7 : St} {z : Int} {u : St} (h : tr_d_X12_town_2 z5 A A7 z u) : d_X12_town_2 z5 A A7 z u := h
abbrev tr_d_X12_town_1 (A : St) (z : Int) (u : St) (K1 : Int → St → Prop) (z5 : Int) (A7 : St) : Prop := ((IM A7) ∧ ((-2147483648 ≤ z5 ∧ z5 ≤ 2147483647) ∧ (((¬ (A7 0 8) = 0) ∧ (d_X12_town_2 z5 A A7 z u)) ∨ (((A7 0 8) = 0) ∧ ((((A7 0 3) = 0) ∧ (d_X12_town_2 z5 A A7 z u)) ∨ ((¬ (A7 0 3) = 0) ∧ (∃ A19 : St, q_X12_statement A7 A19 ∧ (∃ z24 : Int, z24 = oWrap (z5 + 1) ∧ (K1 z24 A19)))))))))
def d_X12_town_1 (A : St) (z : Int) (u : St) : Nat → Int → St → Prop
  | 0, _, _ => False
  | nn9 + 1, z5, A7 => tr_d_X12_town_1 A z u (fun z5 A7 => d_X12_town_1 A z u nn9 z5 A7) z5 A7
theorem u_d_X12_town_1 {A : St} {z : Int} {u : St} {nn9 : Nat} {z5 : Int} {A7 : St} (h : tr_d_X12_town_1 A z u (fun z5 A7 => d_X12_town_1 A z u nn9 z5 A7) z5 A7) : d_X12_town_1 A z u (nn9 + 1) z5 A7 := h
abbrev tr_r_X12_town (A : St) (z : Int) (u : St) : Prop := (∃ A1 : St, A1 = (stA (stA (stA (stA (stA (stA (stA (stA (stA (stA (stA (stA (stA (stA (stA A 0 2 (A 0 1)) 0 1 0) 0 5 0) 0 8 0) 0 9 (-1)) 0 47 (-(A 0 12) + 1)) 2 (-(A 0 12) + 1).toNat 0) 4 (-(A 0 12) + 1).toNat 0) 11 (-(A 0 12) + 1).toNat 0) 16 (-(A 0 12) + 1).toNat 0) 19 (-(A 0 12) + 1).toNat 0) 22 (-(A 0 12) + 1).toNat 0) 25 (-(A 0 12) + 1).toNat 0) 29 (-(A 0 12) + 1).toNat 0) 0 46 0) ∧ (∃ A2 : St, q_X12_ahead A1 A2 ∧ (∃ nn9 : Nat, d_X12_town_1 A z u nn9 0 A2)))
def r_X12_town (A : St) (z : Int) (u : St) : Prop := tr_r_X12_town A z u
theorem u_r_X12_town {A : St} {z : Int} {u : St} (h : tr_r_X12_town A z u) : r_X12_town A z u := h
def q_X12_town (A : St) (z : Int) (u : St) : Prop := r_X12_town A z u ∧ IM u ∧ fr [2, 3, 4, 5, 6, 7, 8, 9, 10, 11, 12, 13, 14, 15, 16, 17, 18, 19, 20, 21, 22, 23, 24, 25, 26, 27, 28, 29, 30, 31, 32, 33, 34, 35, 36, 37, 38, 39, 40, 41] [1, 2, 3, 4, 5, 6, 7, 8, 9, 10, 11, 12, 46, 47, 53, 54, 56, 57, 75] A u ∧ CI u ∧ WI u ∧ ((-2147483648 ≤ z ∧ z ≤ 2147483647) ∧ u 0 1 = 0)
def ws_mb_X12_town : List Cond := .code yX12_town cX12_town 2 (some .int) :: WX
set_option maxHeartbeats 4000000 in
set_option maxRecDepth 100000 in
theorem mb_X12_town (l : Launch) (dC : Nat → ClassId) (dI : Nat → Nat → Nat) (cB cI cJ cZ cQ : ClassId) (q : Nat → Nat) (A : St) (hI : IM A) (hcCI : CI A) (hcWI : WI A) : XMi l yX12_town ws_mb_X12_town ({ frames := 8, cells := 0, slots := 0, locals := 175 } : Room) (dC, dI) (tyA cB cI cJ cZ cQ) (WM cI cJ cZ q) A [.ref (q 0)] (fun z u => r_X12_town A z u ∧ IM u ∧ fr [2, 3, 4, 5, 6, 7, 8, 9, 10, 11, 12, 13, 14, 15, 16, 17, 18, 19, 20, 21, 22, 23, 24, 25, 26, 27, 28, 29, 30, 31, 32, 33, 34, 35, 36, 37, 38, 39, 40, 41] [1, 2, 3, 4, 5, 6, 7, 8, 9, 10, 11, 12, 46, 47, 53, 54, 56, 57, 75] A u ∧ CI u ∧ WI u ∧ ((-2147483648 ≤ z ∧ z ≤ 2147483647) ∧ u 0 1 = 0)) := by
  refine x_meti (cc := cX12_town) (maxL := 2) WM_adr (by decide +kernel) rfl (Nat.le_of_ble_eq_true rfl) (fun p e s m below meth c Q AS ls hx hb hml hown hts hK hDD hA0 hP hS hl RET => ?_)
  have hown : s.vm.findClass RX12 = some m.cls := hown
  have hl : lv_has ls 2 [(0, .ref (q 0))] := hl
  have hiX12 : ∀ w ∈ u_ws RX12 TX12 85, w ∈ ws_mb_X12_town := fun w h => List.mem_cons_of_mem _ (wx_lay w h)
  obtain ⟨H, hHe⟩ : ∃ H : Heap, H = s.heap := ⟨_, rfl⟩
  rw [← hHe] at hP
  have hS : va_S AS s.heap H [] := by rw [hHe]; exact hS
  suffices hgo : ∀ locs : List Loc, va_S AS s.heap H locs → W p l e (headSpec ws_mb_X12_town ({ frames := 8, cells := 0, slots := 0, locals := 175 } : Room)).room s m [.ref (q 0)].toArray below meth c H locs 0 0 Q (F0 m 0 ls []) by
    have := hgo [] hS
    rw [hHe] at this
    exact this
  clear hS hHe
  intro locs hS
  refine lv_aload_n hx hb dX12_town_0 rfl (lv_at hl 0 rfl) ?_
  refine lv_aload_n hx hb dX12_town_1 rfl (lv_at hl 0 rfl) ?_
  refine va_get (D := (dC, dI)) (ci := 12) (v := .int (iI (A 0 1))) (C := RX12) (T := TX12) (N := 85) hx hb hts hiX12 hown hK hP 0 wm0 rfl 1 (by decide) (hts _ (List.mem_cons_of_mem _ (wl_in_0 _ (List.mem_of_getElem? (i := 3) rfl)))) (fun _ h9 => h9) rfl dX12_town_2 ?_
  have r_A_0_1 : (0 : Int) ≤ (A 0 1) ∧ (A 0 1) ≤ 1600 := hI 0 1
  refine x_put (D := (dC, dI)) (ci := 12) (v := .int (iI (A 0 1))) (ty := .int) (C := RX12) (T := TX12) (N := 85) hx hb hts hiX12 tyX12 tyX12_ok nmX12 hown hK hP hDD hS 0 wm0 rfl 2 (by decide) (hts _ (List.mem_cons_of_mem _ (wl_in_0 _ (List.mem_of_getElem? (i := 22) rfl)))) (fun _ h9 => h9) rfl (by decide +kernel) rfl rfl (Nat.le_of_ble_eq_true rfl) dX12_town_5 (wf2 (v := (A 0 1))) (fun H locs hP hS => ?_)
  have hI := hI.st (j := 0) (i := 2) (v := (A 0 1)) (show (0 : Int) ≤ (A 0 1) ∧ (A 0 1) ≤ 1600 from (by omega))
  refine lv_aload_n hx hb dX12_town_8 rfl (lv_at hl 0 rfl) ?_
  refine lv_iconst (v := iI 0) hx hb dX12_town_9 (by decide +kernel) ?_
  refine x_put (D := (dC, dI)) (ci := 12) (v := .int (iI 0)) (ty := .int) (C := RX12) (T := TX12) (N := 85) hx hb hts hiX12 tyX12 tyX12_ok nmX12 hown hK hP hDD hS 0 wm0 rfl 1 (by decide) (hts _ (List.mem_cons_of_mem _ (wl_in_0 _ (List.mem_of_getElem? (i := 3) rfl)))) (fun _ h9 => h9) rfl (by decide +kernel) rfl rfl (Nat.le_of_ble_eq_true rfl) dX12_town_10 (wf1 (v := 0)) (fun H locs hP hS => ?_)
  have hI := hI.st (j := 0) (i := 1) (v := 0) (show (0 : Int) ≤ 0 ∧ 0 ≤ 1600 from (by omega))
  refine lv_aload_n hx hb dX12_town_13 rfl (lv_at hl 0 rfl) ?_
  refine lv_iconst (v := iI 0) hx hb dX12_town_14 (by decide +kernel) ?_
  refine x_put (D := (dC, dI)) (ci := 12) (v := .int (iI 0)) (ty := .int) (C := RX12) (T := TX12) (N := 85) hx hb hts hiX12 tyX12 tyX12_ok nmX12 hown hK hP hDD hS 0 wm0 rfl 5 (by decide) (hts _ (List.mem_cons_of_mem _ (wl_in_0 _ (List.mem_of_getElem? (i := 21) rfl)))) (fun _ h9 => h9) rfl (by decide +kernel) rfl rfl (Nat.le_of_ble_eq_true rfl) dX12_town_15 (wf5 (v := 0)) (fun H locs hP hS => ?_)
  have hI := hI.st (j := 0) (i := 5) (v := 0) (show (0 : Int) ≤ 0 ∧ 0 ≤ 1600 from (by omega))
  refine lv_aload_n hx hb dX12_town_18 rfl (lv_at hl 0 rfl) ?_
  refine lv_iconst (v := iI 0) hx hb dX12_town_19 (by decide +kernel) ?_
  refine x_put (D := (dC, dI)) (ci := 12) (v := .int (iI 0)) (ty := .int) (C := RX12) (T := TX12) (N := 85) hx hb hts hiX12 tyX12 tyX12_ok nmX12 hown hK hP hDD hS 0 wm0 rfl 8 (by decide) (hts _ (List.mem_cons_of_mem _ (wl_in_0 _ (List.mem_of_getElem? (i := 16) rfl)))) (fun _ h9 => h9) rfl (by decide +kernel) rfl rfl (Nat.le_of_ble_eq_true rfl) dX12_town_20 (wf8 (v := 0)) (fun H locs hP hS => ?_)
  have hI := hI.st (j := 0) (i := 8) (v := 0) (show (0 : Int) ≤ 0 ∧ 0 ≤ 5 from (by omega))
  refine lv_aload_n hx hb dX12_town_23 rfl (lv_at hl 0 rfl) ?_
  refine lv_iconst (v := iI (-1)) hx hb dX12_town_24 (by decide +kernel) ?_
  refine x_put (D := (dC, dI)) (ci := 12) (v := .int (iI (-1))) (ty := .int) (C := RX12) (T := TX12) (N := 85) hx hb hts hiX12 tyX12 tyX12_ok nmX12 hown hK hP hDD hS 0 wm0 rfl 9 (by decide) (hts _ (List.mem_cons_of_mem _ (wl_in_0 _ (List.mem_of_getElem? (i := 17) rfl)))) (fun _ h9 => h9) rfl (by decide +kernel) rfl rfl (Nat.le_of_ble_eq_true rfl) dX12_town_25 (wf9 (v := (-1))) (fun H locs hP hS => ?_)
  have hI := hI.st (j := 0) (i := 9) (v := (-1)) (show (-1 : Int) ≤ (-1) ∧ (-1) ≤ 1600 from (by omega))
  refine lv_aload_n hx hb dX12_town_28 rfl (lv_at hl 0 rfl) ?_
  refine lv_iconst (v := iI 1) hx hb dX12_town_29 (by decide +kernel) ?_
  refine lv_aload_n hx hb dX12_town_30 rfl (lv_at hl 0 rfl) ?_
  refine va_get (D := (dC, dI)) (ci := 12) (v := .int (iI (A 0 12))) (C := RX12) (T := TX12) (N := 85) hx hb hts hiX12 hown hK hP 0 wm0 rfl 12 (by decide) (hts _ (List.mem_cons_of_mem _ (wl_in_4 _ (List.mem_of_getElem? (i := 14) rfl)))) (fun _ h9 => h9) rfl dX12_town_31 ?_
  have r_A_0_12 : (0 : Int) ≤ (A 0 12) ∧ (A 0 12) ≤ 1 := hI 0 12
  refine x_subv (v := -(A 0 12) + 1) hx hb dX12_town_34 (by omega) ?_
  refine x_put (D := (dC, dI)) (ci := 12) (v := .int (iI (-(A 0 12) + 1))) (ty := .int) (C := RX12) (T := TX12) (N := 85) hx hb hts hiX12 tyX12 tyX12_ok nmX12 hown hK hP hDD hS 0 wm0 rfl 47 (by decide) (hts _ (List.mem_cons_of_mem _ (wl_in_1 _ (List.mem_of_getElem? (i := 12) rfl)))) (fun _ h9 => h9) rfl (by decide +kernel) rfl rfl (Nat.le_of_ble_eq_true rfl) dX12_town_35 (wf47 (v := -(A 0 12) + 1)) (fun H locs hP hS => ?_)
  have hI := hI.st (j := 0) (i := 47) (v := -(A 0 12) + 1) (show (0 : Int) ≤ -(A 0 12) + 1 ∧ -(A 0 12) + 1 ≤ 1 from (by omega))
  refine lv_aload_n hx hb dX12_town_38 rfl (lv_at hl 0 rfl) ?_
  refine va_get (D := (dC, dI)) (ci := 12) (v := .ref (q 2)) (C := RX12) (T := TX12) (N := 85) hx hb hts hiX12 hown hK hP 0 wm0 rfl 13 (by decide) (hts _ (List.mem_cons_of_mem _ (wl_in_1 _ (List.mem_of_getElem? (i := 11) rfl)))) (fun _ h9 => h9) rfl dX12_town_39 ?_
  refine lv_aload_n hx hb dX12_town_42 rfl (lv_at hl 0 rfl) ?_
  refine va_get (D := (dC, dI)) (ci := 12) (v := .int (iI (-(A 0 12) + 1))) (C := RX12) (T := TX12) (N := 85) hx hb hts hiX12 hown hK hP 0 wm0 rfl 47 (by decide) (hts _ (List.mem_cons_of_mem _ (wl_in_1 _ (List.mem_of_getElem? (i := 12) rfl)))) (fun _ h9 => h9) rfl dX12_town_43 ?_
  refine lv_iconst (v := iI 0) hx hb dX12_town_46 (by decide +kernel) ?_
  refine x_iast hx hb hK hP hDD hS 2 1 wm2 rfl (by omega) (by decide) dX12_town_47 ws2 (fun H locs hP hS => ?_)
  have hI := hI.st (j := 2) (i := (-(A 0 12) + 1).toNat) (v := 0) (show (0 : Int) ≤ 0 ∧ 0 ≤ 8 from (by omega))
  refine lv_aload_n hx hb dX12_town_48 rfl (lv_at hl 0 rfl) ?_
  refine va_get (D := (dC, dI)) (ci := 12) (v := .ref (q 4)) (C := RX12) (T := TX12) (N := 85) hx hb hts hiX12 hown hK hP 0 wm0 rfl 15 (by decide) (hts _ (List.mem_cons_of_mem _ (wl_in_1 _ (List.mem_of_getElem? (i := 13) rfl)))) (fun _ h9 => h9) rfl dX12_town_49 ?_
  refine lv_aload_n hx hb dX12_town_52 rfl (lv_at hl 0 rfl) ?_
  refine va_get (D := (dC, dI)) (ci := 12) (v := .int (iI (-(A 0 12) + 1))) (C := RX12) (T := TX12) (N := 85) hx hb hts hiX12 hown hK hP 0 wm0 rfl 47 (by decide) (hts _ (List.mem_cons_of_mem _ (wl_in_1 _ (List.mem_of_getElem? (i := 12) rfl)))) (fun _ h9 => h9) rfl dX12_town_53 ?_
  refine lv_iconst (v := iI 0) hx hb dX12_town_56 (by decide +kernel) ?_
  refine x_iast hx hb hK hP hDD hS 4 1 wm4 rfl (by omega) (by decide) dX12_town_57 ws4 (fun H locs hP hS => ?_)
  have hI := hI.st (j := 4) (i := (-(A 0 12) + 1).toNat) (v := 0) (show (0 : Int) ≤ 0 ∧ 0 ≤ 10 from (by omega))
  refine lv_aload_n hx hb dX12_town_58 rfl (lv_at hl 0 rfl) ?_
  refine va_get (D := (dC, dI)) (ci := 12) (v := .ref (q 11)) (C := RX12) (T := TX12) (N := 85) hx hb hts hiX12 hown hK hP 0 wm0 rfl 22 (by decide) (hts _ (List.mem_cons_of_mem _ (wl_in_1 _ (List.mem_of_getElem? (i := 14) rfl)))) (fun _ h9 => h9) rfl dX12_town_59 ?_
  refine lv_aload_n hx hb dX12_town_62 rfl (lv_at hl 0 rfl) ?_
  refine va_get (D := (dC, dI)) (ci := 12) (v := .int (iI (-(A 0 12) + 1))) (C := RX12) (T := TX12) (N := 85) hx hb hts hiX12 hown hK hP 0 wm0 rfl 47 (by decide) (hts _ (List.mem_cons_of_mem _ (wl_in_1 _ (List.mem_of_getElem? (i := 12) rfl)))) (fun _ h9 => h9) rfl dX12_town_63 ?_
  refine lv_iconst (v := iI 0) hx hb dX12_town_66 (by decide +kernel) ?_
  refine x_iast hx hb hK hP hDD hS 11 1 wm11 rfl (by omega) (by decide) dX12_town_67 ws11 (fun H locs hP hS => ?_)
  have hI := hI.st (j := 11) (i := (-(A 0 12) + 1).toNat) (v := 0) (show (0 : Int) ≤ 0 ∧ 0 ≤ 4 from (by omega))
  refine lv_aload_n hx hb dX12_town_68 rfl (lv_at hl 0 rfl) ?_
  refine va_get (D := (dC, dI)) (ci := 12) (v := .ref (q 16)) (C := RX12) (T := TX12) (N := 85) hx hb hts hiX12 hown hK hP 0 wm0 rfl 27 (by decide) (hts _ (List.mem_cons_of_mem _ (wl_in_1 _ (List.mem_of_getElem? (i := 15) rfl)))) (fun _ h9 => h9) rfl dX12_town_69 ?_
  refine lv_aload_n hx hb dX12_town_72 rfl (lv_at hl 0 rfl) ?_
  refine va_get (D := (dC, dI)) (ci := 12) (v := .int (iI (-(A 0 12) + 1))) (C := RX12) (T := TX12) (N := 85) hx hb hts hiX12 hown hK hP 0 wm0 rfl 47 (by decide) (hts _ (List.mem_cons_of_mem _ (wl_in_1 _ (List.mem_of_getElem? (i := 12) rfl)))) (fun _ h9 => h9) rfl dX12_town_73 ?_
  refine lv_iconst (v := iI 0) hx hb dX12_town_76 (by decide +kernel) ?_
  refine x_iast hx hb hK hP hDD hS 16 1 wm16 rfl (by omega) (by decide) dX12_town_77 ws16 (fun H locs hP hS => ?_)
  have hI := hI.st (j := 16) (i := (-(A 0 12) + 1).toNat) (v := 0) (show (0 : Int) ≤ 0 ∧ 0 ≤ 3 from (by omega))
  refine lv_aload_n hx hb dX12_town_78 rfl (lv_at hl 0 rfl) ?_
  refine va_get (D := (dC, dI)) (ci := 12) (v := .ref (q 19)) (C := RX12) (T := TX12) (N := 85) hx hb hts hiX12 hown hK hP 0 wm0 rfl 30 (by decide) (hts _ (List.mem_cons_of_mem _ (wl_in_1 _ (List.mem_of_getElem? (i := 16) rfl)))) (fun _ h9 => h9) rfl dX12_town_79 ?_
  refine lv_aload_n hx hb dX12_town_82 rfl (lv_at hl 0 rfl) ?_
  refine va_get (D := (dC, dI)) (ci := 12) (v := .int (iI (-(A 0 12) + 1))) (C := RX12) (T := TX12) (N := 85) hx hb hts hiX12 hown hK hP 0 wm0 rfl 47 (by decide) (hts _ (List.mem_cons_of_mem _ (wl_in_1 _ (List.mem_of_getElem? (i := 12) rfl)))) (fun _ h9 => h9) rfl dX12_town_83 ?_
  refine lv_iconst (v := iI 0) hx hb dX12_town_86 (by decide +kernel) ?_
  refine x_iast hx hb hK hP hDD hS 19 1 wm19 rfl (by omega) (by decide) dX12_town_87 ws19 (fun H locs hP hS => ?_)
  have hI := hI.st (j := 19) (i := (-(A 0 12) + 1).toNat) (v := 0) (show (0 : Int) ≤ 0 ∧ 0 ≤ 4 from (by omega))
  refine lv_aload_n hx hb dX12_town_88 rfl (lv_at hl 0 rfl) ?_
  refine va_get (D := (dC, dI)) (ci := 12) (v := .ref (q 22)) (C := RX12) (T := TX12) (N := 85) hx hb hts hiX12 hown hK hP 0 wm0 rfl 33 (by decide) (hts _ (List.mem_cons_of_mem _ (wl_in_3 _ (List.mem_of_getElem? (i := 16) rfl)))) (fun _ h9 => h9) rfl dX12_town_89 ?_
  refine lv_aload_n hx hb dX12_town_92 rfl (lv_at hl 0 rfl) ?_
  refine va_get (D := (dC, dI)) (ci := 12) (v := .int (iI (-(A 0 12) + 1))) (C := RX12) (T := TX12) (N := 85) hx hb hts hiX12 hown hK hP 0 wm0 rfl 47 (by decide) (hts _ (List.mem_cons_of_mem _ (wl_in_1 _ (List.mem_of_getElem? (i := 12) rfl)))) (fun _ h9 => h9) rfl dX12_town_93 ?_
  refine lv_iconst (v := iI 0) hx hb dX12_town_96 (by decide +kernel) ?_
  refine x_iast hx hb hK hP hDD hS 22 1 wm22 rfl (by omega) (by decide) dX12_town_97 ws22 (fun H locs hP hS => ?_)
  have hI := hI.st (j := 22) (i := (-(A 0 12) + 1).toNat) (v := 0) (show (0 : Int) ≤ 0 ∧ 0 ≤ 6 from (by omega))
  refine lv_aload_n hx hb dX12_town_98 rfl (lv_at hl 0 rfl) ?_
  refine va_get (D := (dC, dI)) (ci := 12) (v := .ref (q 25)) (C := RX12) (T := TX12) (N := 85) hx hb hts hiX12 hown hK hP 0 wm0 rfl 36 (by decide) (hts _ (List.mem_cons_of_mem _ (wl_in_3 _ (List.mem_of_getElem? (i := 20) rfl)))) (fun _ h9 => h9) rfl dX12_town_99 ?_
  refine lv_aload_n hx hb dX12_town_102 rfl (lv_at hl 0 rfl) ?_
  refine va_get (D := (dC, dI)) (ci := 12) (v := .int (iI (-(A 0 12) + 1))) (C := RX12) (T := TX12) (N := 85) hx hb hts hiX12 hown hK hP 0 wm0 rfl 47 (by decide) (hts _ (List.mem_cons_of_mem _ (wl_in_1 _ (List.mem_of_getElem? (i := 12) rfl)))) (fun _ h9 => h9) rfl dX12_town_103 ?_
  refine lv_iconst (v := iI 0) hx hb dX12_town_106 (by decide +kernel) ?_
  refine x_iast hx hb hK hP hDD hS 25 1 wm25 rfl (by omega) (by decide) dX12_town_107 ws25 (fun H locs hP hS => ?_)
  have hI := hI.st (j := 25) (i := (-(A 0 12) + 1).toNat) (v := 0) (show (0 : Int) ≤ 0 ∧ 0 ≤ 6 from (by omega))
  refine lv_aload_n hx hb dX12_town_108 rfl (lv_at hl 0 rfl) ?_
  refine va_get (D := (dC, dI)) (ci := 12) (v := .ref (q 29)) (C := RX12) (T := TX12) (N := 85) hx hb hts hiX12 hown hK hP 0 wm0 rfl 40 (by decide) (hts _ (List.mem_cons_of_mem _ (wl_in_3 _ (List.mem_of_getElem? (i := 25) rfl)))) (fun _ h9 => h9) rfl dX12_town_109 ?_
  refine lv_aload_n hx hb dX12_town_112 rfl (lv_at hl 0 rfl) ?_
  refine va_get (D := (dC, dI)) (ci := 12) (v := .int (iI (-(A 0 12) + 1))) (C := RX12) (T := TX12) (N := 85) hx hb hts hiX12 hown hK hP 0 wm0 rfl 47 (by decide) (hts _ (List.mem_cons_of_mem _ (wl_in_1 _ (List.mem_of_getElem? (i := 12) rfl)))) (fun _ h9 => h9) rfl dX12_town_113 ?_
  refine lv_iconst (v := iI 0) hx hb dX12_town_116 (by decide +kernel) ?_
  refine x_iast hx hb hK hP hDD hS 29 1 wm29 rfl (by omega) (by decide) dX12_town_117 ws29 (fun H locs hP hS => ?_)
  have hI := hI.st (j := 29) (i := (-(A 0 12) + 1).toNat) (v := 0) (show (0 : Int) ≤ 0 ∧ 0 ≤ 6 from (by omega))
  refine lv_aload_n hx hb dX12_town_118 rfl (lv_at hl 0 rfl) ?_
  refine lv_iconst (v := iI 0) hx hb dX12_town_119 (by decide +kernel) ?_
  refine x_put (D := (dC, dI)) (ci := 12) (v := .int (iI 0)) (ty := .int) (C := RX12) (T := TX12) (N := 85) hx hb hts hiX12 tyX12 tyX12_ok nmX12 hown hK hP hDD hS 0 wm0 rfl 46 (by decide) (hts _ (List.mem_cons_of_mem _ (wl_in_1 _ (List.mem_of_getElem? (i := 31) rfl)))) (fun _ h9 => h9) rfl (by decide +kernel) rfl rfl (Nat.le_of_ble_eq_true rfl) dX12_town_120 (wf46 (v := 0)) (fun H locs hP hS => ?_)
  have hI := hI.st (j := 0) (i := 46) (v := 0) (show (0 : Int) ≤ 0 ∧ 0 ≤ 1600 from (by omega))
  refine lv_iconst (v := iI 0) hx hb dX12_town_123 (by decide +kernel) ?_
  refine lv_istore_n (lv' := [(1, .int (iI 0)), (0, .ref (q 0))]) hx hb dX12_town_124 rfl hl (by decide) rfl (fun ls hl => ?_)
  refine lv_aload_n hx hb dX12_town_125 rfl (lv_at hl 1 rfl) ?_
  obtain ⟨A1, hA1⟩ : ∃ A1 : St, A1 = (stA (stA (stA (stA (stA (stA (stA (stA (stA (stA (stA (stA (stA (stA (stA A 0 2 (A 0 1)) 0 1 0) 0 5 0) 0 8 0) 0 9 (-1)) 0 47 (-(A 0 12) + 1)) 2 (-(A 0 12) + 1).toNat 0) 4 (-(A 0 12) + 1).toNat 0) 11 (-(A 0 12) + 1).toNat 0) 16 (-(A 0 12) + 1).toNat 0) 19 (-(A 0 12) + 1).toNat 0) 22 (-(A 0 12) + 1).toNat 0) 25 (-(A 0 12) + 1).toNat 0) 29 (-(A 0 12) + 1).toNat 0) 0 46 0) := ⟨_, rfl⟩
  rw [← hA1] at hP hI
  have e_A1_4 : A1 0 4 = (A 0 4) := by rw [hA1]; exact rfl
  have r_A_0_4 : (0 : Int) ≤ (A 0 4) ∧ (A 0 4) ≤ 1600 := by rw [← e_A1_4]; exact hI 0 4
  have e_A1_5 : A1 0 5 = 0 := by rw [hA1]; rfl
  have e_A1_8 : A1 0 8 = 0 := by rw [hA1]; rfl
  have hci0 : CI A1 := CI.zero (n := -(A 0 12) + 1) hcCI (by omega) (by rw [hA1]; rfl) (by rw [hA1]; rfl) (by rw [hA1]; rfl) (by rw [hA1]; rfl) (by rw [hA1]; rfl)
  have hwi0 : WI A1 := WI.zero (n := -(A 0 12) + 1) hcWI (by omega) (by rw [hA1]; rfl) (by rw [hA1]; rfl)
  refine x_callv (As := []) (rest := []) ⟨hx, hb, hml, hown, hts⟩ (mb_X12_ahead l dC dI cB cI cJ cZ cQ q _ hI) (cwV 0 hts (goodV (wl_in_0 _ (List.mem_of_getElem? (i := 40) rfl)) (wl_in_0 _ (List.mem_of_getElem? (i := 41) rfl)) (wl_in_0 _ (List.mem_of_getElem? (i := 42) rfl)) (wl_in_0 _ (List.mem_of_getElem? (i := 8) rfl)) (wl_in_0 _ (List.mem_of_getElem? (i := 20) rfl))) rfl rfl rfl (by decide +kernel) ⟨Nat.le_of_ble_eq_true rfl, Nat.le_of_ble_eq_true rfl⟩) hK hDD hA0 hP hS 0 12 wm0 rfl rfl hl.1 (Nat.le_of_ble_eq_true rfl) dX12_town_126 (fun A2 H locs hw3 hP hS => ?_)
  have ghw3 : q_X12_ahead A1 A2 := hw3
  obtain ⟨_, hI, hf4, hw3⟩ := hw3
  have r_A2_0_3 : (0 : Int) ≤ (A2 0 3) ∧ (A2 0 3) ≤ 3 := hI 0 3
  have r_A2_0_4 : (0 : Int) ≤ (A2 0 4) ∧ (A2 0 4) ≤ 1600 := hI 0 4
  have r_A2_0_5 : (0 : Int) ≤ (A2 0 5) ∧ (A2 0 5) ≤ 1600 := hI 0 5
  have r_A2_0_8 : (0 : Int) ≤ (A2 0 8) ∧ (A2 0 8) ≤ 5 := hI 0 8
  have e_A1_46 : A1 0 46 = 0 := by rw [hA1]; rfl
  have e_A2_46 : A2 0 46 = 0 := (hf4.2 46 rfl).trans e_A1_46
  have hcb : CB A2 := ⟨by omega, hw3.2.1, hw3.2.2.1⟩
  have L129_8 : ∀ (n10 : Nat) (z5 : Int) (A7 : St) (H : Heap) (locs : List Loc) (ls : Array Slot), (-2147483648 ≤ z5 ∧ z5 ≤ 2147483647) → (Hd ((A7 0 8) = 0 → CB A7)) → (CI A7) → (WI A7) → (∀ (z : Int) (u : St), (∃ mm1 : Nat, (d_X12_town_1 A z u mm1 z5 A7)) → r_X12_town A z u) → ((1602 * (5 - (A7 0 8)) + 1602 - (A7 0 4)).toNat = n10) → IM A7 → fr [2, 3, 4, 5, 6, 7, 8, 9, 10, 11, 12, 13, 14, 15, 16, 17, 18, 19, 20, 21, 22, 23, 24, 25, 26, 27, 28, 29, 30, 31, 32, 33, 34, 35, 36, 37, 38, 39, 40] [3, 4, 5, 6, 7, 8, 9, 46, 53, 54, 56, 57] A2 A7 → va_P (dC, dI) vwCl (WM cI cJ cZ q A7) H → va_S AS s.heap H locs → lv_has ls 2 [(1, .int (iI z5)), (0, .ref (q 0))] → W p l e (headSpec ws_mb_X12_town ({ frames := 8, cells := 0, slots := 0, locals := 175 } : Room)).room s m [.ref (q 0)].toArray below meth c H locs 0 0 Q (F0 m 129 ls []) := by
    intro n10
    induction n10 using Nat.strongRecOn with
    | ind n10 ih9 =>
      intro z5 A7 H locs ls f11 f12 hc13 hc14 hk1 hn10 hI hj6 hP hS hl
      have gI15 : Hd (IM A7) := Hd.mk hI
      have r_A7_0_4 : (0 : Int) ≤ (A7 0 4) ∧ (A7 0 4) ≤ 1600 := hI 0 4
      have r_A7_0_8 : (0 : Int) ≤ (A7 0 8) ∧ (A7 0 8) ≤ 5 := hI 0 8
      have r_A7_0_3 : (0 : Int) ≤ (A7 0 3) ∧ (A7 0 3) ≤ 3 := hI 0 3
      have r_A7_0_5 : (0 : Int) ≤ (A7 0 5) ∧ (A7 0 5) ≤ 1600 := hI 0 5
      refine lv_aload_n hx hb dX12_town_129 rfl (lv_at hl 1 rfl) ?_
      refine va_get (D := (dC, dI)) (ci := 12) (v := .int (iI (A7 0 8))) (C := RX12) (T := TX12) (N := 85) hx hb hts hiX12 hown hK hP 0 wm0 rfl 8 (by decide) (hts _ (List.mem_cons_of_mem _ (wl_in_0 _ (List.mem_of_getElem? (i := 16) rfl)))) (fun _ h9 => h9) rfl dX12_town_130 ?_
      have J153_17 : ∀ (H : Heap) (locs : List Loc) (ls : Array Slot), (∀ (z : Int) (u : St), (∃ mm1 : Nat, (d_X12_town_2 z5 A A7 z u)) → r_X12_town A z u) → va_P (dC, dI) vwCl (WM cI cJ cZ q A7) H → va_S AS s.heap H locs → lv_has ls 2 [(1, .int (iI z5)), (0, .ref (q 0))] → W p l e (headSpec ws_mb_X12_town ({ frames := 8, cells := 0, slots := 0, locals := 175 } : Room)).room s m [.ref (q 0)].toArray below meth c H locs 0 0 Q (F0 m 153 ls []) := by
        intro H locs ls hk2 hP hS hl
        refine lv_aload_n hx hb dX12_town_153 rfl (lv_at hl 1 rfl) ?_
        refine lv_aload_n hx hb dX12_town_154 rfl (lv_at hl 1 rfl) ?_
        refine va_get (D := (dC, dI)) (ci := 12) (v := .int (iI (A7 0 8))) (C := RX12) (T := TX12) (N := 85) hx hb hts hiX12 hown hK hP 0 wm0 rfl 8 (by decide) (hts _ (List.mem_cons_of_mem _ (wl_in_0 _ (List.mem_of_getElem? (i := 16) rfl)))) (fun _ h9 => h9) rfl dX12_town_155 ?_
        refine x_put (D := (dC, dI)) (ci := 12) (v := .int (iI (A7 0 8))) (ty := .int) (C := RX12) (T := TX12) (N := 85) hx hb hts hiX12 tyX12 tyX12_ok nmX12 hown hK hP hDD hS 0 wm0 rfl 10 (by decide) (hts _ (List.mem_cons_of_mem _ (wl_in_4 _ (List.mem_of_getElem? (i := 15) rfl)))) (fun _ h9 => h9) rfl (by decide +kernel) rfl rfl (Nat.le_of_ble_eq_true rfl) dX12_town_158 (wf10 (v := (A7 0 8))) (fun H locs hP hS => ?_)
        have hI := hI.st (j := 0) (i := 10) (v := (A7 0 8)) (show (0 : Int) ≤ (A7 0 8) ∧ (A7 0 8) ≤ 5 from (by omega))
        refine lv_aload_n hx hb dX12_town_161 rfl (lv_at hl 1 rfl) ?_
        refine lv_aload_n hx hb dX12_town_162 rfl (lv_at hl 1 rfl) ?_
        refine va_get (D := (dC, dI)) (ci := 12) (v := .int (iI (A7 0 9))) (C := RX12) (T := TX12) (N := 85) hx hb hts hiX12 hown hK hP 0 wm0 rfl 9 (by decide) (hts _ (List.mem_cons_of_mem _ (wl_in_0 _ (List.mem_of_getElem? (i := 17) rfl)))) (fun _ h9 => h9) rfl dX12_town_163 ?_
        have r_A7_0_9 : (-1 : Int) ≤ (A7 0 9) ∧ (A7 0 9) ≤ 1600 := hI 0 9
        refine x_put (D := (dC, dI)) (ci := 12) (v := .int (iI (A7 0 9))) (ty := .int) (C := RX12) (T := TX12) (N := 85) hx hb hts hiX12 tyX12 tyX12_ok nmX12 hown hK hP hDD hS 0 wm0 rfl 11 (by decide) (hts _ (List.mem_cons_of_mem _ (wl_in_4 _ (List.mem_of_getElem? (i := 16) rfl)))) (fun _ h9 => h9) rfl (by decide +kernel) rfl rfl (Nat.le_of_ble_eq_true rfl) dX12_town_166 (wf11 (v := (A7 0 9))) (fun H locs hP hS => ?_)
        have hI := hI.st (j := 0) (i := 11) (v := (A7 0 9)) (show (-1 : Int) ≤ (A7 0 9) ∧ (A7 0 9) ≤ 1600 from (by omega))
        refine lv_aload_n hx hb dX12_town_169 rfl (lv_at hl 1 rfl) ?_
        refine va_get (D := (dC, dI)) (ci := 12) (v := .int (iI (A7 0 8))) (C := RX12) (T := TX12) (N := 85) hx hb hts hiX12 hown hK hP 0 wm0 rfl 8 (by decide) (hts _ (List.mem_cons_of_mem _ (wl_in_0 _ (List.mem_of_getElem? (i := 16) rfl)))) (fun _ h9 => h9) rfl dX12_town_170 ?_
        refine lv_if_le (tgt := 182) hx hb dX12_town_173 (by decide) (fun c26 => ?_) (fun c26 => ?_)
        · have c26 : (A7 0 8) ≤ 0 := (i_le0 (rb r_A7_0_8 (by decide) (by decide))).mp c26
          refine lv_aload_n hx hb dX12_town_182 rfl (lv_at hl 1 rfl) ?_
          refine lv_aload_n hx hb dX12_town_183 rfl (lv_at hl 1 rfl) ?_
          have e_A1_47 : A1 0 47 = -(A 0 12) + 1 := by rw [hA1]; rfl
          have e_A2_47 : A2 0 47 = -(A 0 12) + 1 := (hf4.2 47 rfl).trans e_A1_47
          have e_A7_47 : A7 0 47 = -(A 0 12) + 1 := (hj6.2 47 rfl).trans e_A2_47
          refine va_get (D := (dC, dI)) (ci := 12) (v := .int (iI (A7 0 47))) (C := RX12) (T := TX12) (N := 85) hx hb hts hiX12 hown hK hP 0 wm0 rfl 47 (by decide) (hts _ (List.mem_cons_of_mem _ (wl_in_1 _ (List.mem_of_getElem? (i := 12) rfl)))) (fun _ h9 => h9) rfl dX12_town_184 ?_
          refine tp_i (y := iI (-(A 0 12) + 1)) (congrArg iI e_A7_47) ?_
          refine x_put (D := (dC, dI)) (ci := 12) (v := .int (iI (-(A 0 12) + 1))) (ty := .int) (C := RX12) (T := TX12) (N := 85) hx hb hts hiX12 tyX12 tyX12_ok nmX12 hown hK hP hDD hS 0 wm0 rfl 12 (by decide) (hts _ (List.mem_cons_of_mem _ (wl_in_4 _ (List.mem_of_getElem? (i := 14) rfl)))) (fun _ h9 => h9) rfl (by decide +kernel) rfl rfl (Nat.le_of_ble_eq_true rfl) dX12_town_187 (wf12 (v := -(A 0 12) + 1)) (fun H locs hP hS => ?_)
          have hI := hI.st (j := 0) (i := 12) (v := -(A 0 12) + 1) (show (0 : Int) ≤ -(A 0 12) + 1 ∧ -(A 0 12) + 1 ≤ 1 from (by omega))
          refine lv_aload_n hx hb dX12_town_190 rfl (lv_at hl 1 rfl) ?_
          refine lv_iconst (v := iI 0) hx hb dX12_town_191 (by decide +kernel) ?_
          refine x_put (D := (dC, dI)) (ci := 12) (v := .int (iI 0)) (ty := .int) (C := RX12) (T := TX12) (N := 85) hx hb hts hiX12 tyX12 tyX12_ok nmX12 hown hK hP hDD hS 0 wm0 rfl 75 (by decide) (hts _ (List.mem_cons_of_mem _ (wl_in_4 _ (List.mem_of_getElem? (i := 17) rfl)))) (fun _ h9 => h9) rfl (by decide +kernel) rfl rfl (Nat.le_of_ble_eq_true rfl) dX12_town_192 (wf75 (v := 0)) (fun H locs hP hS => ?_)
          have hI := hI.st (j := 0) (i := 75) (v := 0) (show (0 : Int) ≤ 0 ∧ 0 ≤ 20 from (by omega))
          refine lv_iload_n hx hb dX12_town_195 rfl (lv_at hl 0 rfl) ?_
          obtain ⟨A27, hA27⟩ : ∃ A27 : St, A27 = (stA (stA (stA (stA A7 0 10 (A7 0 8)) 0 11 (A7 0 9)) 0 12 (-(A 0 12) + 1)) 0 75 0) := ⟨_, rfl⟩
          rw [← hA27] at hP hI
          have e_A1_1 : A1 0 1 = 0 := by rw [hA1]; rfl
          have e_A2_1 : A2 0 1 = 0 := (hf4.2 1 rfl).trans e_A1_1
          have e_A7_1 : A7 0 1 = 0 := (hj6.2 1 rfl).trans e_A2_1
          have e_A27_1 : A27 0 1 = 0 := by rw [hA27]; exact e_A7_1
          exact RET z5 _ _ _ _ _ ⟨hk2 _ _ ⟨0, (u_d_X12_town_2 (Or.inl ⟨c26, ⟨A27, hA27, ⟨rfl, rfl⟩⟩⟩))⟩, hI, fr_def hA27 (fr.sf (fr.sf (fr.sf (fr.sf (fr.trans (fr.trans (fr_def hA1 (fr.sf (fr.st (fr.st (fr.st (fr.st (fr.st (fr.st (fr.st (fr.st (fr.sf (fr.sf (fr.sf (fr.sf (fr.sf (fr.sf (fr.rf) rfl) rfl) rfl) rfl) rfl) rfl) (by decide) rfl) (by decide) rfl) (by decide) rfl) (by decide) rfl) (by decide) rfl) (by decide) rfl) (by decide) rfl) (by decide) rfl) rfl)) hf4 rfl rfl) hj6 rfl rfl) rfl) rfl) rfl) rfl), (CI.fr hc13 (fr_def hA27 (fr.sf (fr.sf (fr.sf (fr.sf (fr.rf (M := []) (N := [10, 11, 12, 75])) rfl) rfl) rfl) rfl)) rfl rfl), (WI.fr hc14 (fr_def hA27 (fr.sf (fr.sf (fr.sf (fr.sf (fr.rf (M := []) (N := [10, 11, 12, 75])) rfl) rfl) rfl) rfl)) rfl rfl), by omega⟩ hP hS dX12_town_196
        · have c26 : ¬ (A7 0 8) ≤ 0 := mt (i_le0 (rb r_A7_0_8 (by decide) (by decide))).mpr c26
          refine lv_aload_n hx hb dX12_town_176 rfl (lv_at hl 1 rfl) ?_
          refine lv_iconst (v := iI 1) hx hb dX12_town_177 (by decide +kernel) ?_
          obtain ⟨A28, hA28⟩ : ∃ A28 : St, A28 = (stA (stA A7 0 10 (A7 0 8)) 0 11 (A7 0 9)) := ⟨_, rfl⟩
          rw [← hA28] at hP hI
          refine x_calli (As := [.int (iI 1)]) (rest := []) ⟨hx, hb, hml, hown, hts⟩ (mc_X12_refuses l dC dI cB cI cJ cZ cQ q _ 1 hI ⟨by decide, by decide⟩) (cwV 1 hts (goodV (wl_in_0 _ (List.mem_of_getElem? (i := 5) rfl)) (wl_in_0 _ (List.mem_of_getElem? (i := 6) rfl)) (wl_in_0 _ (List.mem_of_getElem? (i := 7) rfl)) (wl_in_0 _ (List.mem_of_getElem? (i := 8) rfl)) (wl_in_0 _ (List.mem_of_getElem? (i := 9) rfl))) rfl rfl rfl (by decide +kernel) ⟨Nat.le_of_ble_eq_true rfl, Nat.le_of_ble_eq_true rfl⟩) hK hDD hA0 hP hS 0 12 wm0 rfl rfl hl.1 (Nat.le_of_ble_eq_true rfl) dX12_town_178 (fun z29 A30 H locs hw31 hP hS => ?_)
          have ghw31 : q_X12_refuses 1 A28 z29 A30 := hw31
          obtain ⟨_, hI, hf32, hw31⟩ := hw31
          have e_A1_1 : A1 0 1 = 0 := by rw [hA1]; rfl
          have e_A2_1 : A2 0 1 = 0 := (hf4.2 1 rfl).trans e_A1_1
          have e_A7_1 : A7 0 1 = 0 := (hj6.2 1 rfl).trans e_A2_1
          have e_A28_1 : A28 0 1 = 0 := by rw [hA28]; exact e_A7_1
          have e_A30_1 : A30 0 1 = 0 := (hf32.2 1 rfl).trans e_A28_1
          exact RET z29 _ _ _ _ _ ⟨hk2 _ _ ⟨0, (u_d_X12_town_2 (Or.inr ⟨c26, ⟨A28, hA28, ⟨z29, A30, ghw31, ⟨rfl, rfl⟩⟩⟩⟩))⟩, hI, fr.trans (fr_def hA28 (fr.sf (fr.sf (fr.trans (fr.trans (fr_def hA1 (fr.sf (fr.st (fr.st (fr.st (fr.st (fr.st (fr.st (fr.st (fr.st (fr.sf (fr.sf (fr.sf (fr.sf (fr.sf (fr.sf (fr.rf) rfl) rfl) rfl) rfl) rfl) rfl) (by decide) rfl) (by decide) rfl) (by decide) rfl) (by decide) rfl) (by decide) rfl) (by decide) rfl) (by decide) rfl) (by decide) rfl) rfl)) hf4 rfl rfl) hj6 rfl rfl) rfl) rfl)) hf32 rfl rfl, (CI.fr (CI.fr hc13 (fr_def hA28 (fr.sf (fr.sf (fr.rf (M := []) (N := [10, 11])) rfl) rfl)) rfl rfl) hf32 rfl rfl), (WI.fr (WI.fr hc14 (fr_def hA28 (fr.sf (fr.sf (fr.rf (M := []) (N := [10, 11])) rfl) rfl)) rfl rfl) hf32 rfl rfl), by omega⟩ hP hS dX12_town_181
      refine lv_if_ne (tgt := 153) hx hb dX12_town_133 (by decide) (fun c16 => ?_) (fun c16 => ?_)
      · have c16 : ¬ (A7 0 8) = 0 := mt (i_eq0 (rb r_A7_0_8 (by decide) (by decide))).mpr c16
        exact J153_17 _ _ _ (fun zq uq ⟨mm1, hq⟩ => hk1 _ _ ⟨mm1 + 1, (u_d_X12_town_1 ⟨gI15.out, ⟨f11, (Or.inl ⟨c16, hq⟩)⟩⟩)⟩) hP hS (lv_sub hl [0, 1] rfl)
      · have c16 : (A7 0 8) = 0 := (i_eq0 (rb r_A7_0_8 (by decide) (by decide))).mp c16
        refine lv_aload_n hx hb dX12_town_136 rfl (lv_at hl 1 rfl) ?_
        refine va_get (D := (dC, dI)) (ci := 12) (v := .int (iI (A7 0 3))) (C := RX12) (T := TX12) (N := 85) hx hb hts hiX12 hown hK hP 0 wm0 rfl 3 (by decide) (hts _ (List.mem_cons_of_mem _ (wl_in_0 _ (List.mem_of_getElem? (i := 24) rfl)))) (fun _ h9 => h9) rfl dX12_town_137 ?_
        refine lv_if_eq (tgt := 153) hx hb dX12_town_140 (by decide) (fun c18 => ?_) (fun c18 => ?_)
        · have c18 : (A7 0 3) = 0 := (i_eq0 (rb r_A7_0_3 (by decide) (by decide))).mp c18
          exact J153_17 _ _ _ (fun zq uq ⟨mm1, hq⟩ => hk1 _ _ ⟨mm1 + 1, (u_d_X12_town_1 ⟨gI15.out, ⟨f11, (Or.inr ⟨c16, (Or.inl ⟨c18, hq⟩)⟩)⟩⟩)⟩) hP hS (lv_sub hl [0, 1] rfl)
        · have c18 : ¬ (A7 0 3) = 0 := mt (i_eq0 (rb r_A7_0_3 (by decide) (by decide))).mpr c18
          have gcb := f12.out (by omega)
          have hlt := CB.lt gcb (by omega)
          refine lv_aload_n hx hb dX12_town_143 rfl (lv_at hl 1 rfl) ?_
          refine x_callv (As := []) (rest := []) ⟨hx, hb, hml, hown, hts⟩ (mb_X12_statement l dC dI cB cI cJ cZ cQ q _ hI (by exact gcb) hc13 hc14) (cwV 0 hts (goodV (wl_in_4 _ (List.mem_of_getElem? (i := 18) rfl)) (wl_in_4 _ (List.mem_of_getElem? (i := 19) rfl)) (wl_in_4 _ (List.mem_of_getElem? (i := 20) rfl)) (wl_in_0 _ (List.mem_of_getElem? (i := 8) rfl)) (wl_in_3 _ (List.mem_of_getElem? (i := 32) rfl))) rfl rfl rfl (by decide +kernel) ⟨Nat.le_of_ble_eq_true rfl, Nat.le_of_ble_eq_true rfl⟩) hK hDD hA0 hP hS 0 12 wm0 rfl rfl hl.1 (Nat.le_of_ble_eq_true rfl) dX12_town_144 (fun A19 H locs hw20 hP hS => ?_)
          have ghw20 : q_X12_statement A7 A19 := hw20
          obtain ⟨_, hI, hf21, hw20⟩ := hw20
          obtain ⟨hc22, hw20⟩ := hw20
          obtain ⟨hc23, hw20⟩ := hw20
          have r_A19_0_4 : (0 : Int) ≤ (A19 0 4) ∧ (A19 0 4) ≤ 1600 := hI 0 4
          have r_A19_0_8 : (0 : Int) ≤ (A19 0 8) ∧ (A19 0 8) ≤ 5 := hI 0 8
          obtain ⟨z24, gz24, hz24, ez24⟩ := i_wrapE (z5 + 1)
          refine lv_iinc (v := iI z24) (lv' := [(1, .int (iI z24)), (0, .ref (q 0))]) hx hb dX12_town_147 hl (k := 0) rfl ((i_inc (by omega)).trans ez24) (by decide) rfl (fun ls hl => ?_)
          refine lv_goto (tgt := 129) hx hb dX12_town_150 (by decide) ?_
          have r_A19_0_5 : (0 : Int) ≤ (A19 0 5) ∧ (A19 0 5) ≤ 1600 := hI 0 5
          have gm : A19 0 8 = 0 → A7 0 5 ≤ A19 0 4 := fun h => (hw20.out h).2
          exact ih9 _ (by omega) z24 _ _ _ _ (by omega) (by exact Hd.mk (fun h0 => (hw20.out (by omega)).1)) hc22 hc23 (fun zq uq ⟨mm1, hq⟩ => hk1 _ _ ⟨mm1 + 1, (u_d_X12_town_1 ⟨gI15.out, ⟨f11, (Or.inr ⟨c16, (Or.inr ⟨c18, ⟨A19, ghw20, ⟨z24, gz24.out, hq⟩⟩⟩)⟩)⟩⟩)⟩) rfl hI (fr.trans (fr.trans (fr.rf) hj6 rfl rfl) hf21 rfl rfl) hP hS (lv_sub hl [0, 1] rfl)
  exact L129_8 _ 0 _ _ _ _ (by omega) (by exact Hd.mk (fun _ => hcb)) (CI.fr hci0 hf4 rfl rfl) (WI.fr hwi0 hf4 rfl rfl) (fun zq uq ⟨mm1, hq⟩ => (u_r_X12_town ⟨A1, hA1, ⟨A2, ghw3, ⟨mm1, hq⟩⟩⟩)) rfl hI (fr.rf) hP hS (lv_sub hl [0, 1] rfl)
