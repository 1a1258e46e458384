abbrev tr_d_X12_reads_2 (u : St) (K2 : Int → St → Prop) (z12 : Int) (A14 : St) : Prop := ((IM A14) ∧ ((0 ≤ z12 ∧ z12 ≤ 1) ∧ (((z12 = 0) ∧ (u = A14)) ∨ ((¬ z12 = 0) ∧ (((¬ (A14 0 57) = 0) ∧ (∃ z24 : Int, ∃ A25 : St, q_X12_goesOn A14 z24 A25 ∧ (((z24 = 0) ∧ (K2 0 A25)) ∨ ((¬ z24 = 0) ∧ (((¬ (A25 0 8) = 0) ∧ (K2 0 A25)) ∨ (((A25 0 8) = 0) ∧ (K2 1 A25))))))) ∨ (((A14 0 57) = 0) ∧ (∃ z31 : Int, ∃ A32 : St, q_X12_operand A14 z31 A32 ∧ (∃ A36 : St, A36 = (stA A32 0 57 z31) ∧ (((¬ (A32 0 8) = 0) ∧ (K2 0 A36)) ∨ (((A32 0 8) = 0) ∧ (K2 1 A36)))))))))))
def d_X12_reads_2 (u : St) : Nat → Int → St → Prop
  | 0, _, _ => False
  | nn9 + 1, z12, A14 => tr_d_X12_reads_2 u (fun z12 A14 => d_X12_reads_2 u nn9 z12 A14) z12 A14
theorem u_d_X12_reads_2 {u : St} {nn9 : Nat} {z12 : Int} {A14 : St} (h : tr_d_X12_reads_2 u (fun z12 A14 => d_X12_reads_2 u nn9 z12 A14) z12 A14) : d_X12_reads_2 u (nn9 + 1) z12 A14 := h
abbrev tr_d_X12_reads_1 (A2 : St) (u : St) (z5 : Int) : Prop := ((0 ≤ z5 ∧ z5 ≤ 1) ∧ (∃ A9 : St, q_X12_pushes z5 A2 A9 ∧ (∃ nn9 : Nat, d_X12_reads_2 u nn9 1 A9)))
def d_X12_reads_1 (A2 : St) (u : St) (z5 : Int) : Prop := tr_d_X12_reads_1 A2 u z5
theorem u_d_X12_reads_1 {A2 : St} {u : St} {z5 : Int} (h : tr_d_X12_reads_1 A2 u z5) : d_X12_reads_1 A2 u z5 := h
abbrev tr_r_X12_reads (x1 : Int) (A : St) (u : St) : Prop := ((((A 0 8) ≤ 0) ∧ (∃ A2 : St, A2 = (stA (stA (stA (stA A 0 53 0) 0 54 0) 0 56 0) 0 57 0) ∧ (((x1 = 0) ∧ (d_X12_reads_1 A2 u 0)) ∨ ((¬ x1 = 0) ∧ (d_X12_reads_1 A2 u 1))))) ∨ ((¬ (A 0 8) ≤ 0) ∧ (u = A)))
def r_X12_reads (x1 : Int) (A : St) (u : St) : Prop := tr_r_X12_reads x1 A u
theorem u_r_X12_reads {x1 : Int} {A : St} {u : St} (h : tr_r_X12_reads x1 A u) : r_X12_reads x1 A u := h
def q_X12_reads (x1 : Int) (A : St) (u : St) : Prop := r_X12_reads x1 A u ∧ IM u ∧ fr [33, 34, 35, 36, 37, 38, 39, 40] [3, 4, 5, 6, 7, 8, 9, 46, 53, 54, 56, 57] A u ∧ CI u ∧ (Hd (u 0 8 = 0 → DP (u 33) (sA u) (1600 * u 0 47 + u 0 46) 1 ∧ CB u ∧ A 0 4 ≤ u 0 4))
def ws_mb_X12_reads : List Cond := .code yX12_reads cX12_reads 3 none :: WX
set_option maxHeartbeats 4000000 in
set_option maxRecDepth 100000 in
theorem mb_X12_reads (l : Launch) (dC : Nat → ClassId) (dI : Nat → Nat → Nat) (cB cI cJ cZ cQ : ClassId) (q : Nat → Nat) (A : St) (x1 : Int) (hI : IM A) (hx1 : (0 : Int) ≤ x1 ∧ x1 ≤ 1) (hp0 : CB A) (hp1 : A 31 (6 * A 0 47 + A 29 (A 0 47).toNat).toNat = A 0 46) (hcCI : CI A) : XMv l yX12_reads ws_mb_X12_reads ({ frames := 4, cells := 0, slots := 0, locals := 91 } : Room) (dC, dI) (tyA cB cI cJ cZ cQ) (WM cI cJ cZ q) A [.ref (q 0), .int (iI x1)] (fun u => r_X12_reads x1 A u ∧ IM u ∧ fr [33, 34, 35, 36, 37, 38, 39, 40] [3, 4, 5, 6, 7, 8, 9, 46, 53, 54, 56, 57] A u ∧ CI u ∧ (Hd (u 0 8 = 0 → DP (u 33) (sA u) (1600 * u 0 47 + u 0 46) 1 ∧ CB u ∧ A 0 4 ≤ u 0 4))) := by
  refine x_metv (cc := cX12_reads) (maxL := 3) WM_adr (by decide +kernel) rfl (Nat.le_of_ble_eq_true rfl) (fun p e s m below meth c Q AS ls hx hb hml hown hts hK hDD hA0 hP hS hl RET => ?_)
  have hown : s.vm.findClass RX12 = some m.cls := hown
  have hl : lv_has ls 3 [(0, .ref (q 0)), (1, .int (iI x1))] := hl
  have hiX12 : ∀ w ∈ u_ws RX12 TX12 85, w ∈ ws_mb_X12_reads := fun w h => List.mem_cons_of_mem _ (wx_lay w h)
  obtain ⟨H, hHe⟩ : ∃ H : Heap, H = s.heap := ⟨_, rfl⟩
  rw [← hHe] at hP
  have hS : va_S AS s.heap H [] := by rw [hHe]; exact hS
  suffices hgo : ∀ locs : List Loc, va_S AS s.heap H locs → W p l e (headSpec ws_mb_X12_reads ({ frames := 4, cells := 0, slots := 0, locals := 91 } : Room)).room s m [.ref (q 0), .int (iI x1)].toArray below meth c H locs 0 0 Q (F0 m 0 ls []) by
    have := hgo [] hS
    rw [hHe] at this
    exact this
  clear hS hHe
  intro locs hS
  refine lv_aload_n hx hb dX12_reads_0 rfl (lv_at hl 0 rfl) ?_
  refine va_get (D := (dC, dI)) (ci := 12) (v := .int (iI (A 0 8))) (C := RX12) (T := TX12) (N := 85) hx hb hts hiX12 hown hK hP 0 wm0 rfl 8 (by decide) (hts _ (List.mem_cons_of_mem _ (wl_in_0 _ (List.mem_of_getElem? (i := 16) rfl)))) (fun _ h9 => h9) rfl dX12_reads_1 ?_
  have r_A_0_8 : (0 : Int) ≤ (A 0 8) ∧ (A 0 8) ≤ 5 := hI 0 8
  refine lv_if_le (tgt := 8) hx hb dX12_reads_4 (by decide) (fun c1 => ?_) (fun c1 => ?_)
  · have c1 : (A 0 8) ≤ 0 := (i_le0 (rb r_A_0_8 (by decide) (by decide))).mp c1
    refine lv_aload_n hx hb dX12_reads_8 rfl (lv_at hl 0 rfl) ?_
    refine lv_iconst (v := iI 0) hx hb dX12_reads_9 (by decide +kernel) ?_
    refine x_put (D := (dC, dI)) (ci := 12) (v := .int (iI 0)) (ty := .int) (C := RX12) (T := TX12) (N := 85) hx hb hts hiX12 tyX12 tyX12_ok nmX12 hown hK hP hDD hS 0 wm0 rfl 53 (by decide) (hts _ (List.mem_cons_of_mem _ (wl_in_1 _ (List.mem_of_getElem? (i := 37) rfl)))) (fun _ h9 => h9) rfl (by decide +kernel) rfl rfl (Nat.le_of_ble_eq_true rfl) dX12_reads_10 (wf53 (v := 0)) (fun H locs hP hS => ?_)
    have hI := hI.st (j := 0) (i := 53) (v := 0) (show (0 : Int) ≤ 0 ∧ 0 ≤ 20 from (by omega))
    refine lv_aload_n hx hb dX12_reads_13 rfl (lv_at hl 0 rfl) ?_
    refine lv_iconst (v := iI 0) hx hb dX12_reads_14 (by decide +kernel) ?_
    refine x_put (D := (dC, dI)) (ci := 12) (v := .int (iI 0)) (ty := .int) (C := RX12) (T := TX12) (N := 85) hx hb hts hiX12 tyX12 tyX12_ok nmX12 hown hK hP hDD hS 0 wm0 rfl 54 (by decide) (hts _ (List.mem_cons_of_mem _ (wl_in_1 _ (List.mem_of_getElem? (i := 50) rfl)))) (fun _ h9 => h9) rfl (by decide +kernel) rfl rfl (Nat.le_of_ble_eq_true rfl) dX12_reads_15 (wf54 (v := 0)) (fun H locs hP hS => ?_)
    have hI := hI.st (j := 0) (i := 54) (v := 0) (show (0 : Int) ≤ 0 ∧ 0 ≤ 8 from (by omega))
    refine lv_aload_n hx hb dX12_reads_18 rfl (lv_at hl 0 rfl) ?_
    refine lv_iconst (v := iI 0) hx hb dX12_reads_19 (by decide +kernel) ?_
    refine x_put (D := (dC, dI)) (ci := 12) (v := .int (iI 0)) (ty := .int) (C := RX12) (T := TX12) (N := 85) hx hb hts hiX12 tyX12 tyX12_ok nmX12 hown hK hP hDD hS 0 wm0 rfl 56 (by decide) (hts _ (List.mem_cons_of_mem _ (wl_in_1 _ (List.mem_of_getElem? (i := 35) rfl)))) (fun _ h9 => h9) rfl (by decide +kernel) rfl rfl (Nat.le_of_ble_eq_true rfl) dX12_reads_20 (wf56 (v := 0)) (fun H locs hP hS => ?_)
    have hI := hI.st (j := 0) (i := 56) (v := 0) (show (0 : Int) ≤ 0 ∧ 0 ≤ 500 from (by omega))
    refine lv_aload_n hx hb dX12_reads_23 rfl (lv_at hl 0 rfl) ?_
    refine lv_iconst (v := iI 0) hx hb dX12_reads_24 (by decide +kernel) ?_
    refine x_put (D := (dC, dI)) (ci := 12) (v := .int (iI 0)) (ty := .boolean) (C := RX12) (T := TX12) (N := 85) hx hb hts hiX12 tyX12 tyX12_ok nmX12 hown hK hP hDD hS 0 wm0 rfl 57 (by decide) (hts _ (List.mem_cons_of_mem _ (wl_in_2 _ (List.mem_of_getElem? (i := 9) rfl)))) (fun _ h9 => h9) rfl (by decide +kernel) (by decide +kernel) rfl (Nat.le_of_ble_eq_true rfl) dX12_reads_25 (wf57 (v := 0)) (fun H locs hP hS => ?_)
    have hI := hI.st (j := 0) (i := 57) (v := 0) (show (0 : Int) ≤ 0 ∧ 0 ≤ 1 from (by omega))
    refine lv_aload_n hx hb dX12_reads_28 rfl (lv_at hl 0 rfl) ?_
    refine lv_iload_n hx hb dX12_reads_29 rfl (lv_at hl 1 rfl) ?_
    obtain ⟨A2, hA2⟩ : ∃ A2 : St, A2 = (stA (stA (stA (stA A 0 53 0) 0 54 0) 0 56 0) 0 57 0) := ⟨_, rfl⟩
    rw [← hA2] at hP hI
    have J38_4 : ∀ (z5 : Int) (H : Heap) (locs : List Loc) (ls : Array Slot), (0 ≤ z5 ∧ z5 ≤ 1) → ((z5 = 0 ∧ x1 = 0) ∨ (z5 = 1 ∧ ¬ x1 = 0)) → (∀ (u : St), (d_X12_reads_1 A2 u z5) → r_X12_reads x1 A u) → va_P (dC, dI) vwCl (WM cI cJ cZ q A2) H → va_S AS s.heap H locs → lv_has ls 3 [(0, .ref (q 0)), (1, .int (iI x1))] → W p l e (headSpec ws_mb_X12_reads ({ frames := 4, cells := 0, slots := 0, locals := 91 } : Room)).room s m [.ref (q 0), .int (iI x1)].toArray below meth c H locs 0 0 Q (F0 m 38 ls [.int (iI z5), .ref (q 0)]) := by
      intro z5 H locs ls f7 f8 hk1 hP hS hl
      have e_A2_53 : A2 0 53 = 0 := by rw [hA2]; rfl
      have e_A2_56 : A2 0 56 = 0 := by rw [hA2]; rfl
      refine x_callv (As := [.int (iI z5)]) (rest := []) ⟨hx, hb, hml, hown, hts⟩ (mb_X12_pushes l dC dI cB cI cJ cZ cQ q _ z5 hI (rb f7 (by decide) (by decide)) (by omega)) (cwV 1 hts (goodV (wl_in_1 _ (List.mem_of_getElem? (i := 51) rfl)) (wl_in_1 _ (List.mem_of_getElem? (i := 52) rfl)) (wl_in_1 _ (List.mem_of_getElem? (i := 53) rfl)) (wl_in_0 _ (List.mem_of_getElem? (i := 8) rfl)) (wl_in_1 _ (List.mem_of_getElem? (i := 45) rfl))) rfl rfl rfl (by decide +kernel) ⟨Nat.le_of_ble_eq_true rfl, Nat.le_of_ble_eq_true rfl⟩) hK hDD hA0 hP hS 0 12 wm0 rfl rfl hl.1 (Nat.le_of_ble_eq_true rfl) dX12_reads_38 (fun A9 H locs hw10 hP hS => ?_)
      have ghw10 : q_X12_pushes z5 A2 A9 := hw10
      obtain ⟨_, hI, hf11, hw10⟩ := hw10
      have r_A9_0_53 : (0 : Int) ≤ (A9 0 53) ∧ (A9 0 53) ≤ 20 := hI 0 53
      refine lv_iconst (v := iI 1) hx hb dX12_reads_41 (by decide +kernel) ?_
      refine lv_istore_n (lv' := [(2, .int (iI 1)), (0, .ref (q 0)), (1, .int (iI x1))]) hx hb dX12_reads_42 rfl hl (by decide) rfl (fun ls hl => ?_)
      have e_A2_4 : A2 0 4 = (A 0 4) := by rw [hA2]; exact rfl
      have e_A9_4 : A9 0 4 = (A 0 4) := (hf11.2 4 rfl).trans e_A2_4
      have r_A_0_4 : (0 : Int) ≤ (A 0 4) ∧ (A 0 4) ≤ 1600 := by rw [← e_A9_4]; exact hI 0 4
      have e_A2_8 : A2 0 8 = (A 0 8) := by rw [hA2]; exact rfl
      have e_A9_8 : A9 0 8 = (A 0 8) := (hf11.2 8 rfl).trans e_A2_8
      have e_A2_57 : A2 0 57 = 0 := by rw [hA2]; rfl
      have e_A9_57 : A9 0 57 = 0 := (hf11.2 57 rfl).trans e_A2_57
      have L43_15 : ∀ (n17 : Nat) (z12 : Int) (A14 : St) (H : Heap) (locs : List Loc) (ls : Array Slot), (0 ≤ z12 ∧ z12 ≤ 1) → (Hd ((z12 = 1 → (A14 0 8) = 0 ∧ RI (A14 0 57) A14 ∧ (PR A14 ∧ SP A14) ∧ A 0 4 ≤ (A14 0 4)) ∧ (z12 = 0 → (A14 0 8) = 0 → DP (A14 33) (sA A14) (1600 * A14 0 47 + A14 0 46) 1 ∧ CB A14 ∧ A 0 4 ≤ (A14 0 4)))) → (CI A14) → (∀ (u : St), (∃ mm2 : Nat, (d_X12_reads_2 u mm2 z12 A14)) → r_X12_reads x1 A u) → ((1601 * z12 + 1601 - (A14 0 4)).toNat = n17) → IM A14 → fr [33, 34, 35, 36, 37, 38, 39, 40] [3, 4, 5, 6, 7, 8, 9, 46, 53, 54, 56, 57] A9 A14 → va_P (dC, dI) vwCl (WM cI cJ cZ q A14) H → va_S AS s.heap H locs → lv_has ls 3 [(2, .int (iI z12)), (0, .ref (q 0)), (1, .int (iI x1))] → W p l e (headSpec ws_mb_X12_reads ({ frames := 4, cells := 0, slots := 0, locals := 91 } : Room)).room s m [.ref (q 0), .int (iI x1)].toArray below meth c H locs 0 0 Q (F0 m 43 ls []) := by
        intro n17
        induction n17 using Nat.strongRecOn with
        | ind n17 ih16 =>
          intro z12 A14 H locs ls f18 f19 hc20 hk2 hn17 hI hj13 hP hS hl
          have gI21 : Hd (IM A14) := Hd.mk hI
          have r_A14_0_4 : (0 : Int) ≤ (A14 0 4) ∧ (A14 0 4) ≤ 1600 := hI 0 4
          have r_A14_0_8 : (0 : Int) ≤ (A14 0 8) ∧ (A14 0 8) ≤ 5 := hI 0 8
          have r_A14_0_57 : (0 : Int) ≤ (A14 0 57) ∧ (A14 0 57) ≤ 1 := hI 0 57
          have e_A2_47 : A2 0 47 = (A 0 47) := by rw [hA2]; exact rfl
          have e_A9_47 : A9 0 47 = (A 0 47) := (hf11.2 47 rfl).trans e_A2_47
          have e_A14_47 : A14 0 47 = (A 0 47) := (hj13.2 47 rfl).trans e_A9_47
          have r_A14_0_3 : (0 : Int) ≤ (A14 0 3) ∧ (A14 0 3) ≤ 3 := hI 0 3
          have r_A14_0_5 : (0 : Int) ≤ (A14 0 5) ∧ (A14 0 5) ≤ 1600 := hI 0 5
          have r_A14_0_7 : (-9223372036854775808 : Int) ≤ (A14 0 7) ∧ (A14 0 7) ≤ 9223372036854775807 := hI 0 7
          have r_A14_0_46 : (0 : Int) ≤ (A14 0 46) ∧ (A14 0 46) ≤ 1600 := hI 0 46
          have r_A_0_47 : (0 : Int) ≤ (A 0 47) ∧ (A 0 47) ≤ 1 := by rw [← e_A14_47]; exact hI 0 47
          have r_A14_0_53 : (0 : Int) ≤ (A14 0 53) ∧ (A14 0 53) ≤ 20 := hI 0 53
          have r_A14_0_54 : (0 : Int) ≤ (A14 0 54) ∧ (A14 0 54) ≤ 8 := hI 0 54
          have r_A14_0_56 : (0 : Int) ≤ (A14 0 56) ∧ (A14 0 56) ≤ 500 := hI 0 56
          refine lv_iload_n hx hb dX12_reads_43 rfl (lv_at hl 0 rfl) ?_
          refine lv_if_eq (tgt := 90) hx hb dX12_reads_44 (by decide) (fun c22 => ?_) (fun c22 => ?_)
          · have c22 : z12 = 0 := (i_eq0 (rb f18 (by decide) (by decide))).mp c22
            exact RET _ _ _ _ _ ⟨hk2 _ ⟨0 + 1, (u_d_X12_reads_2 ⟨gI21.out, ⟨f18, (Or.inl ⟨c22, rfl⟩)⟩⟩)⟩, hI, fr.trans (fr.trans (fr_def hA2 (fr.sf (fr.sf (fr.sf (fr.sf (fr.rf) rfl) rfl) rfl) rfl)) hf11 rfl rfl) hj13 rfl rfl, hc20, Hd.mk (fun h0 => f19.out.2 (by omega) (by omega))⟩ hP hS dX12_reads_90
          · have c22 : ¬ z12 = 0 := mt (i_eq0 (rb f18 (by decide) (by decide))).mpr c22
            have g := f19.out.1 (by omega)
            refine lv_aload_n hx hb dX12_reads_47 rfl (lv_at hl 1 rfl) ?_
            refine va_get (D := (dC, dI)) (ci := 12) (v := .int (iI (A14 0 57))) (C := RX12) (T := TX12) (N := 85) hx hb hts hiX12 hown hK hP 0 wm0 rfl 57 (by decide) (hts _ (List.mem_cons_of_mem _ (wl_in_2 _ (List.mem_of_getElem? (i := 9) rfl)))) (fun _ h9 => h9) rfl dX12_reads_48 ?_
            refine lv_if_ne (tgt := 65) hx hb dX12_reads_51 (by decide) (fun c23 => ?_) (fun c23 => ?_)
            · have c23 : ¬ (A14 0 57) = 0 := mt (i_eq0 (rb r_A14_0_57 (by decide) (by decide))).mpr c23
              refine lv_aload_n hx hb dX12_reads_65 rfl (lv_at hl 1 rfl) ?_
              refine x_calli (As := []) (rest := []) ⟨hx, hb, hml, hown, hts⟩ (mb_X12_goesOn l dC dI cB cI cJ cZ cQ q _ hI (by have t := g.2.1; rw [show A14 0 57 = 1 by omega] at t; exact t) (by exact g.1) (by exact g.2.2.1.1) (by omega) (by exact g.2.2.1.2) hc20) (cwV 0 hts (goodV (wl_in_2 _ (List.mem_of_getElem? (i := 17) rfl)) (wl_in_2 _ (List.mem_of_getElem? (i := 18) rfl)) (wl_in_2 _ (List.mem_of_getElem? (i := 19) rfl)) (wl_in_0 _ (List.mem_of_getElem? (i := 8) rfl)) (wl_in_2 _ (List.mem_of_getElem? (i := 8) rfl))) rfl rfl rfl (by decide +kernel) ⟨Nat.le_of_ble_eq_true rfl, Nat.le_of_ble_eq_true rfl⟩) hK hDD hA0 hP hS 0 12 wm0 rfl rfl hl.1 (Nat.le_of_ble_eq_true rfl) dX12_reads_66 (fun z24 A25 H locs hw26 hP hS => ?_)
              have ghw26 : q_X12_goesOn A14 z24 A25 := hw26
              obtain ⟨_, hI, hf27, hw26⟩ := hw26
              obtain ⟨hc28, hw26⟩ := hw26
              have r_A25_0_4 : (0 : Int) ≤ (A25 0 4) ∧ (A25 0 4) ≤ 1600 := hI 0 4
              have r_A25_0_8 : (0 : Int) ≤ (A25 0 8) ∧ (A25 0 8) ≤ 5 := hI 0 8
              have r_A25_0_46 : (0 : Int) ≤ (A25 0 46) ∧ (A25 0 46) ≤ 1600 := hI 0 46
              have e_A25_47 : A25 0 47 = (A 0 47) := (hf27.2 47 rfl).trans e_A14_47
              have r_A25_0_57 : (0 : Int) ≤ (A25 0 57) ∧ (A25 0 57) ≤ 1 := hI 0 57
              have rz24 : 0 ≤ z24 ∧ z24 ≤ 1 := hw26.1
              refine lv_istore_n (lv' := [(2, .int (iI z24)), (0, .ref (q 0)), (1, .int (iI x1))]) hx hb dX12_reads_69 rfl hl (by decide) rfl (fun ls hl => ?_)
              refine lv_iload_n hx hb dX12_reads_70 rfl (lv_at hl 0 rfl) ?_
              refine lv_if_eq (tgt := 85) hx hb dX12_reads_71 (by decide) (fun c29 => ?_) (fun c29 => ?_)
              · have c29 : z24 = 0 := (i_eq0 (rb rz24 (by decide) (by decide))).mp c29
                refine lv_iconst (v := iI 0) hx hb dX12_reads_85 (by decide +kernel) ?_
                refine lv_istore_n (lv' := [(2, .int (iI 0)), (0, .ref (q 0)), (1, .int (iI x1))]) hx hb dX12_reads_86 rfl hl (by decide) rfl (fun ls hl => ?_)
                refine lv_goto (tgt := 43) hx hb dX12_reads_87 (by decide) ?_
                have r_A25_0_3 : (0 : Int) ≤ (A25 0 3) ∧ (A25 0 3) ≤ 3 := hI 0 3
                have r_A25_0_5 : (0 : Int) ≤ (A25 0 5) ∧ (A25 0 5) ≤ 1600 := hI 0 5
                have r_A25_0_7 : (-9223372036854775808 : Int) ≤ (A25 0 7) ∧ (A25 0 7) ≤ 9223372036854775807 := hI 0 7
                have r_A25_0_53 : (0 : Int) ≤ (A25 0 53) ∧ (A25 0 53) ≤ 20 := hI 0 53
                have r_A25_0_54 : (0 : Int) ≤ (A25 0 54) ∧ (A25 0 54) ≤ 8 := hI 0 54
                have r_A25_0_56 : (0 : Int) ≤ (A25 0 56) ∧ (A25 0 56) ≤ 500 := hI 0 56
                exact ih16 _ (by omega) 0 _ _ _ _ (by omega) (by exact Hd.mk ⟨fun h => absurd h (by decide), fun _ h8 => by have kk := (hw26.2.out (by omega)).2 (by omega); have kl := kk.2.2; exact ⟨kk.1, kk.2.1, by omega⟩⟩) hc28 (fun uq ⟨mm2, hq⟩ => hk2 _ ⟨mm2 + 1, (u_d_X12_reads_2 ⟨gI21.out, ⟨f18, (Or.inr ⟨c22, (Or.inl ⟨c23, ⟨z24, A25, ghw26, (Or.inl ⟨c29, hq⟩)⟩⟩)⟩)⟩⟩)⟩) rfl hI (fr.trans (fr.trans (fr.rf) hj13 rfl rfl) hf27 rfl rfl) hP hS (lv_sub hl [0, 1, 2] rfl)
              · have c29 : ¬ z24 = 0 := mt (i_eq0 (rb rz24 (by decide) (by decide))).mpr c29
                refine lv_aload_n hx hb dX12_reads_74 rfl (lv_at hl 1 rfl) ?_
                refine va_get (D := (dC, dI)) (ci := 12) (v := .int (iI (A25 0 8))) (C := RX12) (T := TX12) (N := 85) hx hb hts hiX12 hown hK hP 0 wm0 rfl 8 (by decide) (hts _ (List.mem_cons_of_mem _ (wl_in_0 _ (List.mem_of_getElem? (i := 16) rfl)))) (fun _ h9 => h9) rfl dX12_reads_75 ?_
                refine lv_if_ne (tgt := 85) hx hb dX12_reads_78 (by decide) (fun c30 => ?_) (fun c30 => ?_)
                · have c30 : ¬ (A25 0 8) = 0 := mt (i_eq0 (rb r_A25_0_8 (by decide) (by decide))).mpr c30
                  refine lv_iconst (v := iI 0) hx hb dX12_reads_85 (by decide +kernel) ?_
                  refine lv_istore_n (lv' := [(2, .int (iI 0)), (0, .ref (q 0)), (1, .int (iI x1))]) hx hb dX12_reads_86 rfl hl (by decide) rfl (fun ls hl => ?_)
                  refine lv_goto (tgt := 43) hx hb dX12_reads_87 (by decide) ?_
                  have r_A25_0_3 : (0 : Int) ≤ (A25 0 3) ∧ (A25 0 3) ≤ 3 := hI 0 3
                  have r_A25_0_5 : (0 : Int) ≤ (A25 0 5) ∧ (A25 0 5) ≤ 1600 := hI 0 5
                  have r_A25_0_7 : (-9223372036854775808 : Int) ≤ (A25 0 7) ∧ (A25 0 7) ≤ 9223372036854775807 := hI 0 7
                  have r_A25_0_53 : (0 : Int) ≤ (A25 0 53) ∧ (A25 0 53) ≤ 20 := hI 0 53
                  have r_A25_0_54 : (0 : Int) ≤ (A25 0 54) ∧ (A25 0 54) ≤ 8 := hI 0 54
                  have r_A25_0_56 : (0 : Int) ≤ (A25 0 56) ∧ (A25 0 56) ≤ 500 := hI 0 56
                  exact ih16 _ (by omega) 0 _ _ _ _ (by omega) (by exact Hd.mk ⟨fun h => absurd h (by decide), fun _ h8 => absurd h8 (by omega)⟩) hc28 (fun uq ⟨mm2, hq⟩ => hk2 _ ⟨mm2 + 1, (u_d_X12_reads_2 ⟨gI21.out, ⟨f18, (Or.inr ⟨c22, (Or.inl ⟨c23, ⟨z24, A25, ghw26, (Or.inr ⟨c29, (Or.inl ⟨c30, hq⟩)⟩)⟩⟩)⟩)⟩⟩)⟩) rfl hI (fr.trans (fr.trans (fr.rf) hj13 rfl rfl) hf27 rfl rfl) hP hS (lv_sub hl [0, 1, 2] rfl)
                · have c30 : (A25 0 8) = 0 := (i_eq0 (rb r_A25_0_8 (by decide) (by decide))).mp c30
                  refine lv_iconst (v := iI 1) hx hb dX12_reads_81 (by decide +kernel) ?_
                  refine lv_goto (tgt := 86) hx hb dX12_reads_82 (by decide) ?_
                  refine lv_istore_n (lv' := [(2, .int (iI 1)), (0, .ref (q 0)), (1, .int (iI x1))]) hx hb dX12_reads_86 rfl hl (by decide) rfl (fun ls hl => ?_)
                  refine lv_goto (tgt := 43) hx hb dX12_reads_87 (by decide) ?_
                  have r_A25_0_3 : (0 : Int) ≤ (A25 0 3) ∧ (A25 0 3) ≤ 3 := hI 0 3
                  have r_A25_0_5 : (0 : Int) ≤ (A25 0 5) ∧ (A25 0 5) ≤ 1600 := hI 0 5
                  have r_A25_0_7 : (-9223372036854775808 : Int) ≤ (A25 0 7) ∧ (A25 0 7) ≤ 9223372036854775807 := hI 0 7
                  have r_A25_0_53 : (0 : Int) ≤ (A25 0 53) ∧ (A25 0 53) ≤ 20 := hI 0 53
                  have r_A25_0_54 : (0 : Int) ≤ (A25 0 54) ∧ (A25 0 54) ≤ 8 := hI 0 54
                  have r_A25_0_56 : (0 : Int) ≤ (A25 0 56) ∧ (A25 0 56) ≤ 500 := hI 0 56
                  have kk := (hw26.2.out (by omega)).1 (by omega)
                  have kl := kk.2.2
                  exact ih16 _ (by omega) 1 _ _ _ _ (by omega) (by exact Hd.mk ⟨fun _ => ⟨by omega, by skip; exact kk.1, ⟨kk.2.1.1, kk.2.1.2⟩, by omega⟩, fun h => absurd h (by decide)⟩) hc28 (fun uq ⟨mm2, hq⟩ => hk2 _ ⟨mm2 + 1, (u_d_X12_reads_2 ⟨gI21.out, ⟨f18, (Or.inr ⟨c22, (Or.inl ⟨c23, ⟨z24, A25, ghw26, (Or.inr ⟨c29, (Or.inr ⟨c30, hq⟩)⟩)⟩⟩)⟩)⟩⟩)⟩) rfl hI (fr.trans (fr.trans (fr.rf) hj13 rfl rfl) hf27 rfl rfl) hP hS (lv_sub hl [0, 1, 2] rfl)
            · have c23 : (A14 0 57) = 0 := (i_eq0 (rb r_A14_0_57 (by decide) (by decide))).mp c23
              refine lv_aload_n hx hb dX12_reads_54 rfl (lv_at hl 1 rfl) ?_
              refine lv_aload_n hx hb dX12_reads_55 rfl (lv_at hl 1 rfl) ?_
              refine x_calli (As := []) (rest := [.ref (q 0)]) ⟨hx, hb, hml, hown, hts⟩ (mb_X12_operand l dC dI cB cI cJ cZ cQ q _ hI (by have t := g.2.1; rw [show A14 0 57 = 0 by omega] at t; exact t) (by exact g.1) (by exact g.2.2.1.1) (by exact g.2.2.1.2) hc20) (cwV 0 hts (goodV (wl_in_2 _ (List.mem_of_getElem? (i := 14) rfl)) (wl_in_2 _ (List.mem_of_getElem? (i := 15) rfl)) (wl_in_2 _ (List.mem_of_getElem? (i := 16) rfl)) (wl_in_0 _ (List.mem_of_getElem? (i := 8) rfl)) (wl_in_1 _ (List.mem_of_getElem? (i := 55) rfl))) rfl rfl rfl (by decide +kernel) ⟨Nat.le_of_ble_eq_true rfl, Nat.le_of_ble_eq_true rfl⟩) hK hDD hA0 hP hS 0 12 wm0 rfl rfl hl.1 (Nat.le_of_ble_eq_true rfl) dX12_reads_56 (fun z31 A32 H locs hw33 hP hS => ?_)
              have ghw33 : q_X12_operand A14 z31 A32 := hw33
              obtain ⟨_, hI, hf34, hw33⟩ := hw33
              obtain ⟨hc35, hw33⟩ := hw33
              have r_A32_0_4 : (0 : Int) ≤ (A32 0 4) ∧ (A32 0 4) ≤ 1600 := hI 0 4
              have r_A32_0_8 : (0 : Int) ≤ (A32 0 8) ∧ (A32 0 8) ≤ 5 := hI 0 8
              have rz31 : 0 ≤ z31 ∧ z31 ≤ 1 := hw33.1
              refine x_put (D := (dC, dI)) (ci := 12) (v := .int (iI z31)) (ty := .boolean) (C := RX12) (T := TX12) (N := 85) hx hb hts hiX12 tyX12 tyX12_ok nmX12 hown hK hP hDD hS 0 wm0 rfl 57 (by decide) (hts _ (List.mem_cons_of_mem _ (wl_in_2 _ (List.mem_of_getElem? (i := 9) rfl)))) (fun _ h9 => h9) rfl (by decide +kernel) (by rcases (show z31 = 0 ∨ z31 = 1 by omega) with h | h <;> rw [h] <;> decide +kernel) (by rcases (show z31 = 0 ∨ z31 = 1 by omega) with h | h <;> rw [h] <;> decide +kernel) (Nat.le_of_ble_eq_true rfl) dX12_reads_59 (wf57 (v := z31)) (fun H locs hP hS => ?_)
              have hI := hI.st (j := 0) (i := 57) (v := z31) (show (0 : Int) ≤ z31 ∧ z31 ≤ 1 from (by omega))
              refine lv_goto (tgt := 70) hx hb dX12_reads_62 (by decide) ?_
              refine lv_iload_n hx hb dX12_reads_70 rfl (lv_at hl 0 rfl) ?_
              obtain ⟨A36, hA36⟩ : ∃ A36 : St, A36 = (stA A32 0 57 z31) := ⟨_, rfl⟩
              rw [← hA36] at hP hI
              refine lv_if_eq (tgt := 85) hx hb dX12_reads_71 (by decide) (fun c37 => False.elim (by have c37 : z12 = 0 := (i_eq0 (rb f18 (by decide) (by decide))).mp c37; omega)) (fun _ => ?_)
              refine lv_aload_n hx hb dX12_reads_74 rfl (lv_at hl 1 rfl) ?_
              have e_A36_8 : A36 0 8 = (A32 0 8) := by rw [hA36]; exact rfl
              refine va_get (D := (dC, dI)) (ci := 12) (v := .int (iI (A36 0 8))) (C := RX12) (T := TX12) (N := 85) hx hb hts hiX12 hown hK hP 0 wm0 rfl 8 (by decide) (hts _ (List.mem_cons_of_mem _ (wl_in_0 _ (List.mem_of_getElem? (i := 16) rfl)))) (fun _ h9 => h9) rfl dX12_reads_75 ?_
              refine tp_i (y := iI (A32 0 8)) (congrArg iI e_A36_8) ?_
              refine lv_if_ne (tgt := 85) hx hb dX12_reads_78 (by decide) (fun c38 => ?_) (fun c38 => ?_)
              · have c38 : ¬ (A32 0 8) = 0 := mt (i_eq0 (rb r_A32_0_8 (by decide) (by decide))).mpr c38
                refine lv_iconst (v := iI 0) hx hb dX12_reads_85 (by decide +kernel) ?_
                refine lv_istore_n (lv' := [(2, .int (iI 0)), (0, .ref (q 0)), (1, .int (iI x1))]) hx hb dX12_reads_86 rfl hl (by decide) rfl (fun ls hl => ?_)
                refine lv_goto (tgt := 43) hx hb dX12_reads_87 (by decide) ?_
                have e_A36_4 : A36 0 4 = (A32 0 4) := by rw [hA36]; exact rfl
                have e_A36_57 : A36 0 57 = z31 := by rw [hA36]; rfl
                have e_A36_3 : A36 0 3 = (A32 0 3) := by rw [hA36]; exact rfl
                have e_A36_5 : A36 0 5 = (A32 0 5) := by rw [hA36]; exact rfl
                have e_A36_7 : A36 0 7 = (A32 0 7) := by rw [hA36]; exact rfl
                have e_A36_46 : A36 0 46 = (A32 0 46) := by rw [hA36]; exact rfl
                have e_A32_47 : A32 0 47 = (A 0 47) := (hf34.2 47 rfl).trans e_A14_47
                have e_A36_47 : A36 0 47 = (A 0 47) := by rw [hA36]; exact e_A32_47
                have e_A36_53 : A36 0 53 = (A32 0 53) := by rw [hA36]; exact rfl
                have e_A36_54 : A36 0 54 = (A32 0 54) := by rw [hA36]; exact rfl
                have e_A36_56 : A36 0 56 = (A32 0 56) := by rw [hA36]; exact rfl
                have r_A32_0_3 : (0 : Int) ≤ (A32 0 3) ∧ (A32 0 3) ≤ 3 := by rw [← e_A36_3]; exact hI 0 3
                have r_A32_0_5 : (0 : Int) ≤ (A32 0 5) ∧ (A32 0 5) ≤ 1600 := by rw [← e_A36_5]; exact hI 0 5
                have r_A32_0_7 : (-9223372036854775808 : Int) ≤ (A32 0 7) ∧ (A32 0 7) ≤ 9223372036854775807 := by rw [← e_A36_7]; exact hI 0 7
                have r_A32_0_46 : (0 : Int) ≤ (A32 0 46) ∧ (A32 0 46) ≤ 1600 := by rw [← e_A36_46]; exact hI 0 46
                have r_A32_0_53 : (0 : Int) ≤ (A32 0 53) ∧ (A32 0 53) ≤ 20 := by rw [← e_A36_53]; exact hI 0 53
                have r_A32_0_54 : (0 : Int) ≤ (A32 0 54) ∧ (A32 0 54) ≤ 8 := by rw [← e_A36_54]; exact hI 0 54
                have r_A32_0_56 : (0 : Int) ≤ (A32 0 56) ∧ (A32 0 56) ≤ 500 := by rw [← e_A36_56]; exact hI 0 56
                exact ih16 _ (by omega) 0 _ _ _ _ (by omega) (by exact Hd.mk ⟨fun h => absurd h (by decide), fun _ h8 => absurd h8 (by omega)⟩) (CI.fr hc35 (fr_def hA36 (fr.sf (fr.rf (M := []) (N := [57])) rfl)) rfl rfl) (fun uq ⟨mm2, hq⟩ => hk2 _ ⟨mm2 + 1, (u_d_X12_reads_2 ⟨gI21.out, ⟨f18, (Or.inr ⟨c22, (Or.inr ⟨c23, ⟨z31, A32, ghw33, ⟨A36, hA36, (Or.inl ⟨c38, hq⟩)⟩⟩⟩)⟩)⟩⟩)⟩) rfl hI (fr_def hA36 (fr.sf (fr.trans (fr.trans (fr.rf) hj13 rfl rfl) hf34 rfl rfl) rfl)) hP hS (lv_sub hl [0, 1, 2] rfl)
              · have c38 : (A32 0 8) = 0 := (i_eq0 (rb r_A32_0_8 (by decide) (by decide))).mp c38
                refine lv_iconst (v := iI 1) hx hb dX12_reads_81 (by decide +kernel) ?_
                refine lv_goto (tgt := 86) hx hb dX12_reads_82 (by decide) ?_
                refine lv_istore_n (lv' := [(2, .int (iI 1)), (0, .ref (q 0)), (1, .int (iI x1))]) hx hb dX12_reads_86 rfl hl (by decide) rfl (fun ls hl => ?_)
                refine lv_goto (tgt := 43) hx hb dX12_reads_87 (by decide) ?_
                have e_A36_4 : A36 0 4 = (A32 0 4) := by rw [hA36]; exact rfl
                have e_A36_57 : A36 0 57 = z31 := by rw [hA36]; rfl
                have e_A36_3 : A36 0 3 = (A32 0 3) := by rw [hA36]; exact rfl
                have e_A36_5 : A36 0 5 = (A32 0 5) := by rw [hA36]; exact rfl
                have e_A36_7 : A36 0 7 = (A32 0 7) := by rw [hA36]; exact rfl
                have e_A36_46 : A36 0 46 = (A32 0 46) := by rw [hA36]; exact rfl
                have e_A32_47 : A32 0 47 = (A 0 47) := (hf34.2 47 rfl).trans e_A14_47
                have e_A36_47 : A36 0 47 = (A 0 47) := by rw [hA36]; exact e_A32_47
                have e_A36_53 : A36 0 53 = (A32 0 53) := by rw [hA36]; exact rfl
                have e_A36_54 : A36 0 54 = (A32 0 54) := by rw [hA36]; exact rfl
                have e_A36_56 : A36 0 56 = (A32 0 56) := by rw [hA36]; exact rfl
                have r_A32_0_3 : (0 : Int) ≤ (A32 0 3) ∧ (A32 0 3) ≤ 3 := by rw [← e_A36_3]; exact hI 0 3
                have r_A32_0_5 : (0 : Int) ≤ (A32 0 5) ∧ (A32 0 5) ≤ 1600 := by rw [← e_A36_5]; exact hI 0 5
                have r_A32_0_7 : (-9223372036854775808 : Int) ≤ (A32 0 7) ∧ (A32 0 7) ≤ 9223372036854775807 := by rw [← e_A36_7]; exact hI 0 7
                have r_A32_0_46 : (0 : Int) ≤ (A32 0 46) ∧ (A32 0 46) ≤ 1600 := by rw [← e_A36_46]; exact hI 0 46
                have r_A32_0_53 : (0 : Int) ≤ (A32 0 53) ∧ (A32 0 53) ≤ 20 := by rw [← e_A36_53]; exact hI 0 53
                have r_A32_0_54 : (0 : Int) ≤ (A32 0 54) ∧ (A32 0 54) ≤ 8 := by rw [← e_A36_54]; exact hI 0 54
                have r_A32_0_56 : (0 : Int) ≤ (A32 0 56) ∧ (A32 0 56) ≤ 500 := by rw [← e_A36_56]; exact hI 0 56
                have kk := hw33.2.out (by omega)
                have kl := kk.2.2
                exact ih16 _ (by omega) 1 _ _ _ _ (by omega) (by exact Hd.mk ⟨fun _ => ⟨by omega, by rw [show A36 0 57 = z31 by omega]; exact RI.fr kk.1 (fr_def hA36 (fr.sf (fr.rf (M := []) (N := [57])) rfl)) rfl rfl, ⟨PR.fr kk.2.1.1 (fr_def hA36 (fr.sf (fr.rf (M := []) (N := [57])) rfl)) rfl rfl, SP.fr kk.2.1.2 (fr_def hA36 (fr.sf (fr.rf (M := []) (N := [57])) rfl)) rfl rfl⟩, by omega⟩, fun h => absurd h (by decide)⟩) (CI.fr hc35 (fr_def hA36 (fr.sf (fr.rf (M := []) (N := [57])) rfl)) rfl rfl) (fun uq ⟨mm2, hq⟩ => hk2 _ ⟨mm2 + 1, (u_d_X12_reads_2 ⟨gI21.out, ⟨f18, (Or.inr ⟨c22, (Or.inr ⟨c23, ⟨z31, A32, ghw33, ⟨A36, hA36, (Or.inr ⟨c38, hq⟩)⟩⟩⟩)⟩)⟩⟩)⟩) rfl hI (fr_def hA36 (fr.sf (fr.trans (fr.trans (fr.rf) hj13 rfl rfl) hf34 rfl rfl) rfl)) hP hS (lv_sub hl [0, 1, 2] rfl)
      have e_A2_3 : A2 0 3 = (A 0 3) := by rw [hA2]; exact rfl
      have e_A2_5 : A2 0 5 = (A 0 5) := by rw [hA2]; exact rfl
      have e_A2_7 : A2 0 7 = (A 0 7) := by rw [hA2]; exact rfl
      have e_A2_46 : A2 0 46 = (A 0 46) := by rw [hA2]; exact rfl
      have e_A2_47 : A2 0 47 = (A 0 47) := by rw [hA2]; exact rfl
      have e_A2_54 : A2 0 54 = 0 := by rw [hA2]; rfl
      have e_A9_3 : A9 0 3 = (A 0 3) := (hf11.2 3 rfl).trans e_A2_3
      have e_A9_5 : A9 0 5 = (A 0 5) := (hf11.2 5 rfl).trans e_A2_5
      have e_A9_7 : A9 0 7 = (A 0 7) := (hf11.2 7 rfl).trans e_A2_7
      have e_A9_46 : A9 0 46 = (A 0 46) := (hf11.2 46 rfl).trans e_A2_46
      have e_A9_47 : A9 0 47 = (A 0 47) := (hf11.2 47 rfl).trans e_A2_47
      have e_A9_54 : A9 0 54 = 0 := (hf11.2 54 rfl).trans e_A2_54
      have e_A9_56 : A9 0 56 = 0 := (hf11.2 56 rfl).trans e_A2_56
      have r_A_0_3 : (0 : Int) ≤ (A 0 3) ∧ (A 0 3) ≤ 3 := by rw [← e_A9_3]; exact hI 0 3
      have r_A_0_5 : (0 : Int) ≤ (A 0 5) ∧ (A 0 5) ≤ 1600 := by rw [← e_A9_5]; exact hI 0 5
      have r_A_0_7 : (-9223372036854775808 : Int) ≤ (A 0 7) ∧ (A 0 7) ≤ 9223372036854775807 := by rw [← e_A9_7]; exact hI 0 7
      have r_A_0_46 : (0 : Int) ≤ (A 0 46) ∧ (A 0 46) ≤ 1600 := by rw [← e_A9_46]; exact hI 0 46
      have r_A_0_47 : (0 : Int) ≤ (A 0 47) ∧ (A 0 47) ≤ 1 := by rw [← e_A9_47]; exact hI 0 47
      have g35 : A9 35 0 = z5 := by rw [hw10.2.1, show A2 0 53 = 0 by omega]; exact up_same _ _ _
      have g39 : A9 39 0 = 0 := by rw [hw10.2.2.2.1, show A2 0 53 = 0 by omega, show A2 0 56 = 0 by omega]; exact up_same _ _ _
      have ca39 : A2 29 = A 29 := by rw [hA2]; exact rfl
      have ca40 : A9 29 = A 29 := (hf11.1 29 (by decide) rfl).trans ca39
      have ca41 : A2 31 = A 31 := by rw [hA2]; exact rfl
      have ca42 : A9 31 = A 31 := (hf11.1 31 (by decide) rfl).trans ca41
      have gs : 1600 * A9 0 47 + A9 0 46 = sA A9 := by unfold sA; rw [ca40, ca42, show A9 0 47 = A 0 47 by omega, hp1]; omega
      have gR : RI 0 A9 := RI.start (k := z5) hI (by omega) (by omega) (by omega) (by omega) g35 g39 gs (CB.fr (CB.fr hp0 (fr_def hA2 (fr.sf (fr.sf (fr.sf (fr.sf (fr.rf (M := []) (N := [53, 54, 56, 57])) rfl) rfl) rfl) rfl)) rfl rfl) hf11 rfl rfl)
      exact L43_15 _ 1 _ _ _ _ (by omega) (by exact Hd.mk ⟨fun _ => ⟨by omega, by rw [show A9 0 57 = 0 by omega]; exact gR, ⟨PR.one (by omega) (by rw [g35]; omega), SP.one (by omega) (by omega)⟩, by omega⟩, fun h => absurd h (by decide)⟩) (CI.fr (CI.fr hcCI (fr_def hA2 (fr.sf (fr.sf (fr.sf (fr.sf (fr.rf (M := []) (N := [53, 54, 56, 57])) rfl) rfl) rfl) rfl)) rfl rfl) hf11 rfl rfl) (fun uq ⟨mm2, hq⟩ => hk1 _ (u_d_X12_reads_1 ⟨f7, ⟨A9, ghw10, ⟨mm2, hq⟩⟩⟩)) rfl hI (fr.rf) hP hS (lv_sub hl [0, 1, 2] rfl)
    refine lv_if_eq (tgt := 37) hx hb dX12_reads_30 (by decide) (fun c3 => ?_) (fun c3 => ?_)
    · have c3 : x1 = 0 := (i_eq0 (rb hx1 (by decide) (by decide))).mp c3
      refine lv_iconst (v := iI 0) hx hb dX12_reads_37 (by decide +kernel) ?_
      exact J38_4 0 _ _ _ (by omega) (by omega) (fun uq hq => (u_r_X12_reads (Or.inl ⟨c1, ⟨A2, hA2, (Or.inl ⟨c3, hq⟩)⟩⟩))) hP hS (lv_sub hl [0, 1] rfl)
    · have c3 : ¬ x1 = 0 := mt (i_eq0 (rb hx1 (by decide) (by decide))).mpr c3
      refine lv_iconst (v := iI 1) hx hb dX12_reads_33 (by decide +kernel) ?_
      refine lv_goto (tgt := 38) hx hb dX12_reads_34 (by decide) ?_
      exact J38_4 1 _ _ _ (by omega) (by omega) (fun uq hq => (u_r_X12_reads (Or.inl ⟨c1, ⟨A2, hA2, (Or.inr ⟨c3, hq⟩)⟩⟩))) hP hS (lv_sub hl [0, 1] rfl)
  · have c1 : ¬ (A 0 8) ≤ 0 := mt (i_le0 (rb r_A_0_8 (by decide) (by decide))).mpr c1
    have r_A_0_4 : (0 : Int) ≤ (A 0 4) ∧ (A 0 4) ≤ 1600 := hI 0 4
    have r_A_0_46 : (0 : Int) ≤ (A 0 46) ∧ (A 0 46) ≤ 1600 := hI 0 46
    have r_A_0_47 : (0 : Int) ≤ (A 0 47) ∧ (A 0 47) ≤ 1 := hI 0 47
    exact RET _ _ _ _ _ ⟨(u_r_X12_reads (Or.inr ⟨c1, rfl⟩)), hI, fr.rf, hcCI, Hd.mk (fun h => absurd h (by omega))⟩ hP hS dX12_reads_7
