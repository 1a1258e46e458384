abbrev tr_d_X12_reads_2 (u : St) (K2 : Int → St → Prop) (z12 : Int) (A14 : St) : Prop := ((IM A14) ∧ ((0 ≤ z12 ∧ z12 ≤ 1) ∧ (((z12 = 0) ∧ (u = A14)) ∨ ((¬ z12 = 0) ∧ (((¬ (A14 0 57) = 0) ∧ (∃ z24 : Int, ∃ A25 : St, q_X12_goesOn A14 z24 A25 ∧ (((z24 = 0) ∧ (K2 0 A25)) ∨ ((¬ z24 = 0) ∧ (((¬ (A25 0 8) = 0) ∧ (K2 0 A25)) ∨ (((A25 0 8) = 0) ∧ (K2 1 A25))))))) ∨ (((A14 0 57) = 0) ∧ (∃ z31 : Int, ∃ A32 : St, q_X12_operand A14 z31 A32 ∧ (∃ A36 : St, A36 = (stA A32 0 57 z31) ∧ (((¬ (A32 0 8) = 0) ∧ (K2 0 A36)) ∨ (((A32 0 8) = 0) ∧ (K2 1 A36)))))))))))
def d_X12_reads_2 (u : St) : Nat → Int → St → Prop
  | 0, _, _ => False
  | nn9 + 1, z12, A14 => tr_d_X12_reads_2 u (fun z12 A14 => d_X12_reads_2 u nn9 z12 A14) z12 A14
theorem u_d_X12_reads_2 {u : St} {nn9 : Nat} {z12 : Int} {A14 : St} (h : tr_d_X12_reads_2 u (fun z12 A14 => d_X12_reads_2 u nn9 z12 A14) z12 A14) : d_X12_reads_2 u (nn9 + 1) z12 A14 := h
abbrev tr_d_X12_reads_1 (A2 : St) (u : St) (z5 : Int) : Prop := ((0 ≤ z5 ∧ z5 ≤ 1) ∧ (∃ A9 : St, q_X12_pushes z5 A2 A9 ∧ (∃ nn9 : Nat, d_X12_reads_2 u nn9 1 A9)))
def d_X12_reads_1 (A2 : St) (u : St) (z5 : Int) : Prop := tr_d_X12_reads_1 A2 u z5
theorem u_d_X12_reads_1 {A2 : St} {u : St} {z5 : Int} (h : tr_d_X12_reads_1 A2 u z5) : d_X12_reads_1 A2 u z5 := h
abbrev tr_r_X12_reads (x1 : Int) (A : St) (u : St) : Prop := ((((A 0 8) ≤ 0) ∧ (∃ A2 : St, A2 = (stA (stA (stA (stA A 0 53 0) 0 54 0) 0 56 0) 0 57 0) ∧ (((x1 = 0) ∧ (d_X12_reads_1 A2 u 0)) ∨ ((¬ x1 = 0) ∧ (d_X12_reads_1 A2 u 1))))) ∨ ((¬ (A 0 8) ≤ 0) ∧ (u = A)))
def r_X12_reads (x1 : Int) (A : St) (u : St) : Prop := tr_r_X12_reads x1 A u
theorem u_r_X12_reads {x1 : Int} {A : St} {u : St} (h : tr_r_X12_reads x1 A u) : r_X12_reads x1 A u := h
def q_X12_reads (x1 : Int) (A : St) (u : St) : Prop := r_X12_reads x1 A u ∧ IM u ∧ fr [33, 34, 35, 36, 37, 38, 39, 40] [3, 4, 5, 6, 7, 8, 9, 46, 53, 54, 56, 57] A u ∧ CI u ∧ (Hd (u 0 8 = 0 → DP (u 33) (sA u) (1600 * u 0 47 + u 0 46) 1 ∧ CB u ∧ A 0 4 ≤ u 0 4))
def ws_mb_X12_reads : List Cond := .code yX12_reads cX12_reads 3 none :: WX
set_option maxHeartbeats 4000000 in
set_option maxRecDepth 100000 in
theorem mb_X12_reads (l : Launch) (dC : Nat → ClassId) (dI : Nat → Nat → Nat) (cB cI cJ cZ cQ : ClassId) (q : Nat → Nat) (A : St) (x1 : Int) (hI : IM A) (hx1 : (0 : Int) ≤ x1 ∧ x1 ≤ 1) (hp0 : CB A) (hp1 : A 31 (6 * A 0 47 + A 29 (A 0 47).toNat).toNat = A 0 46) (hcCI : CI A) : XMv l yX12_reads ws_mb_X12_reads ({ frames := 4, cells := 0, slots := 0, locals := 91 } : Room) (dC, dI) (tyA cB cI cJ cZ cQ) (WM cI cJ cZ q) A [.ref (q 0), .int (iI x1)] (fun u => r_X12_reads x1 A u ∧ IM u ∧ fr [33, 34, 35, 36, 37, 38, 39, 40] [3, 4, 5, 6, 7, 8, 9, 46, 53, 54, 56, 57] A u ∧ CI u ∧ (Hd (u 0 8 = 0 → DP (u 33) (sA u) (1600 * u 0 47 + u 0 46) 1 ∧ CB u ∧ A 0 4 ≤ u 0 4))) := by
  refine x_metv (cc := cX12_reads) (maxL := 3) WM_adr (by decide +kernel) rfl (Nat.le_of_ble_eq_true rfl) (fun p e s m below meth c Q AS ls hx hb hml hown hts hK hDD hA0 hP hS hl RET => ?_)
  have hown : s.vm.findClass RX12 = some m.cls := hown
  have hl : lv_has ls 3 [(0, .ref (q 0)), (1, .int (iI x1))] := hl
  have hiX12 : ∀ w ∈ u_ws RX12 TX12 85, w ∈ ws_mb_X12_reads := fun w h => List.mem_cons_of_mem _ (wx_lay w h)
  obtain ⟨H, hHe⟩ : ∃ H : Heap, H = s.heap := ⟨_, rfl⟩
  rw [← hHe] at hP
  have hS : va_S AS s.heap H [] := by rw [hHe]; exact hS
  suffices hgo : ∀ locs : List Loc, va_S AS s.heap H locs → W p l e (headSpec ws_mb_X12_reads ({ frames := 4, cells := 0, slots := 0, locals := 91 } : Room)).room s m [.ref (q 0), .int (iI x1)].toArray below meth c H locs 0 0 Q (F0 m 0 ls []) by
    have := hgo [] hS
    rw [hHe] at this
    exact this
  clear hS hHe
  intro locs hS
  refine lv_aload_n hx hb (dk_at dkX12_reads_0 0 rfl) rfl (lv_at hl 0 rfl) ?_
  refine va_get (D := (dC, dI)) (ci := 12) (v := .int (iI (A 0 8))) (C := RX12) (T := TX12) (N := 85) hx hb hts hiX12 hown hK hP 0 wm0 rfl 8 (by decide) (hts _ (List.mem_cons_of_mem _ wlq_0_16)) (fun _ h9 => h9) rfl (dk_at dkX12_reads_0 1 rfl) ?_
  have r_A_0_8 : (0 : Int) ≤ (A 0 8) ∧ (A 0 8) ≤ 5 := hI 0 8
  refine lv_if_le (tgt := 8) hx hb (dk_at dkX12_reads_0 2 rfl) (by decide) (fun c1 => ?_) (fun c1 => ?_)
  · have c1 : (A 0 8) ≤ 0 := (i_le0 (rb r_A_0_8 (by decide) (by decide))).mp c1
    refine lv_aload_n hx hb (dk_at dkX12_reads_0 4 rfl) rfl (lv_at hl 0 rfl) ?_
    refine lv_iconst (v := iI 0) hx hb (dk_at dkX12_reads_0 5 rfl) (by decide +kernel) ?_
    refine x_put (D := (dC, dI)) (ci := 12) (v := .int (iI 0)) (ty := .int) (C := RX12) (T := TX12) (N := 85) hx hb hts hiX12 tyX12 tyX12_ok nmX12 hown hK hP hDD hS 0 wm0 rfl 53 (by decide) (hts _ (List.mem_cons_of_mem _ wlq_1_37)) (fun _ h9 => h9) rfl (by decide +kernel) rfl rfl (Nat.le_of_ble_eq_true rfl) (dk_at dkX12_reads_0 6 rfl) (wf53 (v := 0)) (fun H locs hP hS => ?_)
    have hI := hI.st (j := 0) (i := 53) (v := 0) (show (0 : Int) ≤ 0 ∧ 0 ≤ 20 from (by omega))
    refine lv_aload_n hx hb (dk_at dkX12_reads_0 7 rfl) rfl (lv_at hl 0 rfl) ?_
    refine lv_iconst (v := iI 0) hx hb (dk_at dkX12_reads_0 8 rfl) (by decide +kernel) ?_
    refine x_put (D := (dC, dI)) (ci := 12) (v := .int (iI 0)) (ty := .int) (C := RX12) (T := TX12) (N := 85) hx hb hts hiX12 tyX12 tyX12_ok nmX12 hown hK hP hDD hS 0 wm0 rfl 54 (by decide) (hts _ (List.mem_cons_of_mem _ wlq_1_50)) (fun _ h9 => h9) rfl (by decide +kernel) rfl rfl (Nat.le_of_ble_eq_true rfl) (dk_at dkX12_reads_0 9 rfl) (wf54 (v := 0)) (fun H locs hP hS => ?_)
    have hI := hI.st (j := 0) (i := 54) (v := 0) (show (0 : Int) ≤ 0 ∧ 0 ≤ 8 from (by omega))
    refine lv_aload_n hx hb (dk_at dkX12_reads_0 10 rfl) rfl (lv_at hl 0 rfl) ?_
    refine lv_iconst (v := iI 0) hx hb (dk_at dkX12_reads_0 11 rfl) (by decide +kernel) ?_
    refine x_put (D := (dC, dI)) (ci := 12) (v := .int (iI 0)) (ty := .int) (C := RX12) (T := TX12) (N := 85) hx hb hts hiX12 tyX12 tyX12_ok nmX12 hown hK hP hDD hS 0 wm0 rfl 56 (by decide) (hts _ (List.mem_cons_of_mem _ wlq_1_35)) (fun _ h9 => h9) rfl (by decide +kernel) rfl rfl (Nat.le_of_ble_eq_true rfl) (dk_at dkX12_reads_0 12 rfl) (wf56 (v := 0)) (fun H locs hP hS => ?_)
    have hI := hI.st (j := 0) (i := 56) (v := 0) (show (0 : Int) ≤ 0 ∧ 0 ≤ 500 from (by omega))
    refine lv_aload_n hx hb (dk_at dkX12_reads_0 13 rfl) rfl (lv_at hl 0 rfl) ?_
    refine lv_iconst (v := iI 0) hx hb (dk_at dkX12_reads_0 14 rfl) (by decide +kernel) ?_
    refine x_put (D := (dC, dI)) (ci := 12) (v := .int (iI 0)) (ty := .boolean) (C := RX12) (T := TX12) (N := 85) hx hb hts hiX12 tyX12 tyX12_ok nmX12 hown hK hP hDD hS 0 wm0 rfl 57 (by decide) (hts _ (List.mem_cons_of_mem _ wlq_2_9)) (fun _ h9 => h9) rfl (by decide +kernel) (by decide +kernel) rfl (Nat.le_of_ble_eq_true rfl) (dk_at dkX12_reads_0 15 rfl) (wf57 (v := 0)) (fun H locs hP hS => ?_)
    have hI := hI.st (j := 0) (i := 57) (v := 0) (show (0 : Int) ≤ 0 ∧ 0 ≤ 1 from (by omega))
    refine lv_aload_n hx hb (dk_at dkX12_reads_1 0 rfl) rfl (lv_at hl 0 rfl) ?_
    refine lv_iload_n hx hb (dk_at dkX12_reads_1 1 rfl) rfl (lv_at hl 1 rfl) ?_
    obtain ⟨A2, hA2⟩ : ∃ A2 : St, A2 = (stA (stA (stA (stA A 0 53 0) 0 54 0) 0 56 0) 0 57 0) := ⟨_, rfl⟩
    rw [← hA2] at hP hI
    have J38_4 : ∀ (z5 : Int) (H : Heap) (locs : List Loc) (ls : Array Slot), (0 ≤ z5 ∧ z5 ≤ 1) → ((z5 = 0 ∧ x1 = 0) ∨ (z5 = 1 ∧ ¬ x1 = 0)) → (∀ (u : St), (d_X12_reads_1 A2 u z5) → r_X12_reads x1 A u) → va_P (dC, dI) vwCl (WM cI cJ cZ q A2) H → va_S AS s.heap H locs → lv_has ls 3 [(0, .ref (q 0)), (1, .int (iI x1))] → W p l e (headSpec ws_mb_X12_reads ({ frames := 4, cells := 0, slots := 0, locals := 91 } : Room)).room s m [.ref (q 0), .int (iI x1)].toArray below meth c H locs 0 0 Q (F0 m 38 ls [.int (iI z5), .ref (q 0)]) := by
      intro z5 H locs ls f7 f8 hk1 hP hS hl
      have e_A2_53 : A2 0 53 = 0 := by rw [hA2]; rfl
      have e_A2_56 : A2 0 56 = 0 := by rw [hA2]; rfl
      refine x_callv (As := [.int (iI z5)]) (rest := []) ⟨hx, hb, hml, hown, hts⟩ (mb_X12_pushes l dC dI cB cI cJ cZ cQ q _ z5 hI (rb f7 (by decide) (by decide)) (by omega)) (cwV 1 hts (goodV wlq_1_51 wlq_1_52 wlq_1_53 wlq_0_8 wlq_1_45) rfl rfl rfl (by decide +kernel) ⟨Nat.le_of_ble_eq_true rfl, Nat.le_of_ble_eq_true rfl⟩) hK hDD hA0 hP hS 0 12 wm0 rfl rfl hl.1 (Nat.le_of_ble_eq_true rfl) (dk_at dkX12_reads_1 6 rfl) (fun A9 H locs hw10 hP hS => ?_)
      have ghw10 : q_X12_pushes z5 A2 A9 := hw10
      obtain ⟨_, hI, hf11, hw10⟩ := hw10
      have r_A9_0_53 : (0 : Int) ≤ (A9 0 53) ∧ (A9 0 53) ≤ 20 := hI 0 53
      refine lv_iconst (v := iI 1) hx hb (dk_at dkX12_reads_1 7 rfl) (by decide +kernel) ?_
      refine lv_istore_n (lv' := [(2, .int (iI 1)), (0, .ref (q 0)), (1, .int (iI x1))]) hx hb (dk_at dkX12_reads_1 8 rfl) rfl hl (by decide) rfl (fun ls hl => ?_)
      have e_A2_4 : A2 0 4 = (A 0 4) := by rw [hA2]; exact rfl
      have e_A9_4 : A9 0 4 = (A 0 4) := (hf11.2 4 rfl).trans e_A2_4
      have r_A_0_4 : (0 : Int) ≤ (A 0 4) ∧ (A 0 4) ≤ 1600 := by rw [← e_A9_4]; exact hI 0 4
      have e_A2_8 : A2 0 8 = (A 0 8) := by rw [hA2]; exact rfl
      have e_A9_8 : A9 0 8 = (A 0 8) := (hf11.2 8 rfl).trans e_A2_8
      have e_A2_57 : A2 0 57 = 0 := by rw [hA2]; rfl
      have e_A9_57 : A9 0 57 = 0 := (hf11.2 57 rfl).trans e_A2_57
      have L43_15 : ∀ (n17 : Nat) (z12 : Int) (A14 : St) (H : Heap) (locs : List Loc) (ls : Array Slot), (0 ≤ z12 ∧ z12 ≤ 1) → (Hd ((z12 = 1 → (A14 0 8) = 0 ∧ RI (A14 0 57) A14 ∧ (PR A14 ∧ SP A14) ∧ A 0 4 ≤ (A14 0 4)) ∧ (z12 = 0 → (A14 0 8) = 0 → DP (A14 33) (sA A14) (1600 * A14 0 47 + A14 0 46) 1 ∧ CB A14 ∧ A 0 4 ≤ (A14 0 4)))) → (CI A14) → (∀ (u : St), (∃ mm2 : Nat, (d_X12_reads_2 u mm2 z12 A14)) → r_X12_reads x1 A u) → ((1601 * z12 + 1601 - (A14 0 4)).toNat = n17) → IM A14 → fr [33, 34, 35, 36, 37, 38, 39, 40] [3, 4, 5, 6, 7, 8, 9, 46, 53, 54, 56, 57] A9 A14 → va_P (dC, dI) vwCl (WM cI cJ cZ q A14) H → va_S AS s.heap H locs → lv_has ls 3 [(2, .int (iI z12)), (0, .ref (q 0)), (1, .int (iI x1))] → W p l e (headSpec ws_mb_X12_reads ({ frames := 4, cells := 0, slots := 0, locals := 91 } : Room)).room s m [.ref (q 0), .int (iI x1)].toArray below meth c H locs 0 0 Q (F0 m 43 ls []) := by
        intro n17
        induction n17 using Nat.strongRecOn with
        | ind n17 ih16 =>
          intro z12 A14 H locs ls f18 f19 hc20 hk2 hn17 hI hj13 hP hS hl
          have gI21 : Hd (IM A14) := Hd.mk hI
          have r_A14_0_4 : (0 : Int) ≤ (A14 0 4) ∧ (A14 0 4) ≤ 1600 := hI 0 4
          have r_A14_0_8 : (0 : Int) ≤ (A14 0 8) ∧ (A14 0 8) ≤ 5 := hI 0 8
          have r_A14_0_57 : (0 : Int) ≤ (A14 0 57) ∧ (A14 0 57) ≤ 1 := hI 0 57
          have e_A2_47 : A2 0 47 = (A 0 47) := by rw [hA2]; exact rfl
          have e_A9_47 : A9 0 47 = (A 0 47) := (hf11.2 47 rfl).trans e_A2_47
          have e_A14_47 : A14 0 47 = (A 0 47) := (hj13.2 47 rfl).trans e_A9_47
          have r_A14_0_3 : (0 : Int) ≤ (A14 0 3) ∧ (A14 0 3) ≤ 3 := hI 0 3
          have r_A14_0_5 : (0 : Int) ≤ (A14 0 5) ∧ (A14 0 5) ≤ 1600 := hI 0 5
          have r_A14_0_7 : (-9223372036854775808 : Int) ≤ (A14 0 7) ∧ (A14 0 7) ≤ 9223372036854775807 := hI 0 7
          have r_A14_0_46 : (0 : Int) ≤ (A14 0 46) ∧ (A14 0 46) ≤ 1600 := hI 0 46
          have r_A_0_47 : (0 : Int) ≤ (A 0 47) ∧ (A 0 47) ≤ 1 := by rw [← e_A14_47]; exact hI 0 47
          have r_A14_0_53 : (0 : Int) ≤ (A14 0 53) ∧ (A14 0 53) ≤ 20 := hI 0 53
          have r_A14_0_54 : (0 : Int) ≤ (A14 0 54) ∧ (A14 0 54) ≤ 8 := hI 0 54
          have r_A14_0_56 : (0 : Int) ≤ (A14 0 56) ∧ (A14 0 56) ≤ 500 := hI 0 56
          refine lv_iload_n hx hb (dk_at dkX12_reads_1 9 rfl) rfl (lv_at hl 0 rfl) ?_
          refine lv_if_eq (tgt := 90) hx hb (dk_at dkX12_reads_1 10 rfl) (by decide) (fun c22 => ?_) (fun c22 => ?_)
          · have c22 : z12 = 0 := (i_eq0 (rb f18 (by decide) (by decide))).mp c22
            exact RET _ _ _ _ _ ⟨hk2 _ ⟨0 + 1, (u_d_X12_reads_2 ⟨gI21.out, ⟨f18, (Or.inl ⟨c22, rfl⟩)⟩⟩)⟩, hI, fr.trans (fr.trans (fr_def hA2 (fr.sf (fr.sf (fr.sf (fr.sf (fr.rf) rfl) rfl) rfl) rfl)) hf11 rfl rfl) hj13 rfl rfl, hc20, Hd.mk (fun h0 => f19.out.2 (by omega) (by omega))⟩ hP hS (dk_at dkX12_reads_3 0 rfl)
          · have c22 : ¬ z12 = 0 := mt (i_eq0 (rb f18 (by decide) (by decide))).mpr c22
            have g := f19.out.1 (by omega)
            refine lv_aload_n hx hb (dk_at dkX12_reads_1 11 rfl) rfl (lv_at hl 1 rfl) ?_
            refine va_get (D := (dC, dI)) (ci := 12) (v := .int (iI (A14 0 57))) (C := RX12) (T := TX12) (N := 85) hx hb hts hiX12 hown hK hP 0 wm0 rfl 57 (by decide) (hts _ (List.mem_cons_of_mem _ wlq_2_9)) (fun _ h9 => h9) rfl (dk_at dkX12_reads_1 12 rfl) ?_
            refine lv_if_ne (tgt := 65) hx hb (dk_at dkX12_reads_1 13 rfl) (by decide) (fun c23 => ?_) (fun c23 => ?_)
            · have c23 : ¬ (A14 0 57) = 0 := mt (i_eq0 (rb r_A14_0_57 (by decide) (by decide))).mpr c23
              refine lv_aload_n hx hb (dk_at dkX12_reads_2 3 rfl) rfl (lv_at hl 1 rfl) ?_
              refine x_calli (As := []) (rest := []) ⟨hx, hb, hml, hown, hts⟩ (mb_X12_goesOn l dC dI cB cI cJ cZ cQ q _ hI (by have t := g.2.1; rw [show A14 0 57 = 1 by omega] at t; exact t) (by exact g.1) (by exact g.2.2.1.1) (by omega) (by exact g.2.2.1.2) hc20) (cwV 0 hts (goodV wlq_2_17 wlq_2_18 wlq_2_19 wlq_0_8 wlq_2_8) rfl rfl rfl (by decide +kernel) ⟨Nat.le_of_ble_eq_true rfl, Nat.le_of_ble_eq_true rfl⟩) hK hDD hA0 hP hS 0 12 wm0 rfl rfl hl.1 (Nat.le_of_ble_eq_true rfl) (dk_at dkX12_reads_2 4 rfl) (fun z24 A25 H locs hw26 hP hS => ?_)
              have ghw26 : q_X12_goesOn A14 z24 A25 := hw26
              obtain ⟨_, hI, hf27, hw26⟩ := hw26
              obtain ⟨hc28, hw26⟩ := hw26
              have r_A25_0_4 : (0 : Int) ≤ (A25 0 4) ∧ (A25 0 4) ≤ 1600 := hI 0 4
              have r_A25_0_8 : (0 : Int) ≤ (A25 0 8) ∧ (A25 0 8) ≤ 5 := hI 0 8
              have r_A25_0_46 : (0 : Int) ≤ (A25 0 46) ∧ (A25 0 46) ≤ 1600 := hI 0 46
              have e_A25_47 : A25 0 47 = (A 0 47) := (hf27.2 47 rfl).trans e_A14_47
              have r_A25_0_57 : (0 : Int) ≤ (A25 0 57) ∧ (A25 0 57) ≤ 1 := hI 0 57
              have rz24 : 0 ≤ z24 ∧ z24 ≤ 1 := hw26.1
              refine lv_istore_n (lv' := [(2, .int (iI z24)), (0, .ref (q 0)), (1, .int (iI x1))]) hx hb (dk_at dkX12_reads_2 5 rfl) rfl hl (by decide) rfl (fun ls hl => ?_)
              refine lv_iload_n hx hb (dk_at dkX12_reads_2 6 rfl) rfl (lv_at hl 0 rfl) ?_
              refine lv_if_eq (tgt := 85) hx hb (dk_at dkX12_reads_2 7 rfl) (by decide) (fun c29 => ?_) (fun c29 => ?_)
              · have c29 : z24 = 0 := (i_eq0 (rb rz24 (by decide) (by decide))).mp c29
                refine lv_iconst (v := iI 0) hx hb (dk_at dkX12_reads_2 13 rfl) (by decide +kernel) ?_
                refine lv_istore_n (lv' := [(2, .int (iI 0)), (0, .ref (q 0)), (1, .int (iI x1))]) hx hb (dk_at dkX12_reads_2 14 rfl) rfl hl (by decide) rfl (fun ls hl => ?_)
                refine lv_goto (tgt := 43) hx hb (dk_at dkX12_reads_2 15 rfl) (by decide) ?_
                have r_A25_0_3 : (0 : Int) ≤ (A25 0 3) ∧ (A25 0 3) ≤ 3 := hI 0 3
                have r_A25_0_5 : (0 : Int) ≤ (A25 0 5) ∧ (A25 0 5) ≤ 1600 := hI 0 5
                have r_A25_0_7 : (-9223372036854775808 : Int) ≤ (A25 0 7) ∧ (A25 0 7) ≤ 9223372036854775807 := hI 0 7
                have r_A25_0_53 : (0 : Int) ≤ (A25 0 53) ∧ (A25 0 53) ≤ 20 := hI 0 53
                have r_A25_0_54 : (0 : Int) ≤ (A25 0 54) ∧ (A25 0 54) ≤ 8 := hI 0 54
                have r_A25_0_56 : (0 : Int) ≤ (A25 0 56) ∧ (A25 0 56) ≤ 500 := hI 0 56
                exact ih16 _ (by omega) 0 _ _ _ _ (by omega) (by exact Hd.mk ⟨fun h => absurd h (by decide), fun _ h8 => by have kk := (hw26.2.out (by omega)).2 (by omega); have kl := kk.2.2; exact ⟨kk.1, kk.2.1, by omega⟩⟩) hc28 (fun uq ⟨mm2, hq⟩ => hk2 _ ⟨mm2 + 1, (u_d_X12_reads_2 ⟨gI21.out, ⟨f18, (Or.inr ⟨c22, (Or.inl ⟨c23, ⟨z24, A25, ghw26, (Or.inl ⟨c29, hq⟩)⟩⟩)⟩)⟩⟩)⟩) rfl hI (fr.trans (fr.trans (fr.rf) hj13 rfl rfl) hf27 rfl rfl) hP hS (lv_sub hl [0, 1, 2] rfl)
              · have c29 : ¬ z24 = 0 := mt (i_eq0 (rb rz24 (by decide) (by decide))).mpr c29
                refine lv_aload_n hx hb (dk_at dkX12_reads_2 8 rfl) rfl (lv_at hl 1 rfl) ?_
                refine va_get (D := (dC, dI)) (ci := 12) (v := .int (iI (A25 0 8))) (C := RX12) (T := TX12) (N := 85) hx hb hts hiX12 hown hK hP 0 wm0 rfl 8 (by decide) (hts _ (List.mem_cons_of_mem _ wlq_0_16)) (fun _ h9 => h9) rfl (dk_at dkX12_reads_2 9 rfl) ?_
                refine lv_if_ne (tgt := 85) hx hb (dk_at dkX12_reads_2 10 rfl) (by decide) (fun c30 => ?_) (fun c30 => ?_)
                · have c30 : ¬ (A25 0 8) = 0 := mt (i_eq0 (rb r_A25_0_8 (by decide) (by decide))).mpr c30
                  refine lv_iconst (v := iI 0) hx hb (dk_at dkX12_reads_2 13 rfl) (by decide +kernel) ?_
                  refine lv_istore_n (lv' := [(2, .int (iI 0)), (0, .ref (q 0)), (1, .int (iI x1))]) hx hb (dk_at dkX12_reads_2 14 rfl) rfl hl (by decide) rfl (fun ls hl => ?_)
                  refine lv_goto (tgt := 43) hx hb (dk_at dkX12_reads_2 15 rfl) (by decide) ?_
                  have r_A25_0_3 : (0 : Int) ≤ (A25 0 3) ∧ (A25 0 3) ≤ 3 := hI 0 3
                  have r_A25_0_5 : (0 : Int) ≤ (A25 0 5) ∧ (A25 0 5) ≤ 1600 := hI 0 5
                  have r_A25_0_7 : (-9223372036854775808 : Int) ≤ (A25 0 7) ∧ (A25 0 7) ≤ 9223372036854775807 := hI 0 7
                  have r_A25_0_53 : (0 : Int) ≤ (A25 0 53) ∧ (A25 0 53) ≤ 20 := hI 0 53
                  have r_A25_0_54 : (0 : Int) ≤ (A25 0 54) ∧ (A25 0 54) ≤ 8 := hI 0 54
                  have r_A25_0_56 : (0 : Int) ≤ (A25 0 56) ∧ (A25 0 56) ≤ 500 := hI 0 56
                  exact ih16 _ (by omega) 0 _ _ _ _ (by omega) (by exact Hd.mk ⟨fun h => absurd h (by decide), fun _ h8 => absurd h8 (by omega)⟩) hc28 (fun uq ⟨mm2, hq⟩ => hk2 _ ⟨mm2 + 1, (u_d_X12_reads_2 ⟨gI21.out, ⟨f18, (Or.inr ⟨c22, (Or.inl ⟨c23, ⟨z24, A25, ghw26, (Or.inr ⟨c29, (Or.inl ⟨c30, hq⟩)⟩)⟩⟩)⟩)⟩⟩)⟩) rfl hI (fr.trans (fr.trans (fr.rf) hj13 rfl rfl) hf27 rfl rfl) hP hS (lv_sub hl [0, 1, 2] rfl)
                · have c30 : (A25 0 8) = 0 := (i_eq0 (rb r_A25_0_8 (by decide) (by decide))).mp c30
                  refine lv_iconst (v := iI 1) hx hb (dk_at dkX12_reads_2 11 rfl) (by decide +kernel) ?_
                  refine lv_goto (tgt := 86) hx hb (dk_at dkX12_reads_2 12 rfl) (by decide) ?_
                  refine lv_istore_n (lv' := [(2, .int (iI 1)), (0, .ref (q 0)), (1, .int (iI x1))]) hx hb (dk_at dkX12_reads_2 14 rfl) rfl hl (by decide) rfl (fun ls hl => ?_)
                  refine lv_goto (tgt := 43) hx hb (dk_at dkX12_reads_2 15 rfl) (by decide) ?_
                  have r_A25_0_3 : (0 : Int) ≤ (A25 0 3) ∧ (A25 0 3) ≤ 3 := hI 0 3
                  have r_A25_0_5 : (0 : Int) ≤ (A25 0 5) ∧ (A25 0 5) ≤ 1600 := hI 0 5
                  have r_A25_0_7 : (-9223372036854775808 : Int) ≤ (A25 0 7) ∧ (A25 0 7) ≤ 9223372036854775807 := hI 0 7
                  have r_A25_0_53 : (0 : Int) ≤ (A25 0 53) ∧ (A25 0 53) ≤ 20 := hI 0 53
                  have r_A25_0_54 : (0 : Int) ≤ (A25 0 54) ∧ (A25 0 54) ≤ 8 := hI 0 54
                  have r_A25_0_56 : (0 : Int) ≤ (A25 0 56) ∧ (A25 0 56) ≤ 500 := hI 0 56
                  have kk := (hw26.2.out (by omega)).1 (by omega)
                  have kl := kk.2.2
                  exact ih16 _ (by omega) 1 _ _ _ _ (by omega) (by exact Hd.mk ⟨fun _ => ⟨by omega, by skip; exact kk.1, ⟨kk.2.1.1, kk.2.1.2⟩, by omega⟩, fun h => absurd h (by decide)⟩) hc28 (fun uq ⟨mm2, hq⟩ => hk2 _ ⟨mm2 + 1, (u_d_X12_reads_2 ⟨gI21.out, ⟨f18, (Or.inr ⟨c22, (Or.inl ⟨c23, ⟨z24, A25, ghw26, (Or.inr ⟨c29, (Or.inr ⟨c30, hq⟩)⟩)⟩⟩)⟩)⟩⟩)⟩) rfl hI (fr.trans (fr.trans (fr.rf) hj13 rfl rfl) hf27 rfl rfl) hP hS (lv_sub hl [0, 1, 2] rfl)
            · have c23 : (A14 0 57) = 0 := (i_eq0 (rb r_A14_0_57 (by decide) (by decide))).mp c23
              refine lv_aload_n hx hb (dk_at dkX12_reads_1 14 rfl) rfl (lv_at hl 1 rfl) ?_
              refine lv_aload_n hx hb (dk_at dkX12_reads_1 15 rfl) rfl (lv_at hl 1 rfl) ?_
              refine x_calli (As := []) (rest := [.ref (q 0)]) ⟨hx, hb, hml, hown, hts⟩ (mb_X12_operand l dC dI cB cI cJ cZ cQ q _ hI (by have t := g.2.1; rw [show A14 0 57 = 0 by omega] at t; exact t) (by exact g.1) (by exact g.2.2.1.1) (by exact g.2.2.1.2) hc20) (cwV 0 hts (goodV wlq_2_14 wlq_2_15 wlq_2_16 wlq_0_8 wlq_1_55) rfl rfl rfl (by decide +kernel) ⟨Nat.le_of_ble_eq_true rfl, Nat.le_of_ble_eq_true rfl⟩) hK hDD hA0 hP hS 0 12 wm0 rfl rfl hl.1 (Nat.le_of_ble_eq_true rfl) (dk_at dkX12_reads_2 0 rfl) (fun z31 A32 H locs hw33 hP hS => ?_)
              have ghw33 : q_X12_operand A14 z31 A32 := hw33
              obtain ⟨_, hI, hf34, hw33⟩ := hw33
              obtain ⟨hc35, hw33⟩ := hw33
              have r_A32_0_4 : (0 : Int) ≤ (A32 0 4) ∧ (A32 0 4) ≤ 1600 := hI 0 4
              have r_A32_0_8 : (0 : Int) ≤ (A32 0 8) ∧ (A32 0 8) ≤ 5 := hI 0 8
              have rz31 : 0 ≤ z31 ∧ z31 ≤ 1 := hw33.1
              refine x_put (D := (dC, dI)) (ci := 12) (v := .int (iI z31)) (ty := .boolean) (C := RX12) (T := TX12) (N := 85) hx hb hts hiX12 tyX12 tyX12_ok nmX12 hown hK hP hDD hS 0 wm0 rfl 57 (by decide) (hts _ (List.mem_cons_of_mem _ wlq_2_9)) (fun _ h9 => h9) rfl (by decide +kernel) (by rcases (show z31 = 0 ∨ z31 = 1 by omega) with h | h <;> rw [h] <;> decide +kernel) (by rcases (show z31 = 0 ∨ z31 = 1 by omega) with h | h <;> rw [h] <;> decide +kernel) (Nat.le_of_ble_eq_true rfl) (dk_at dkX12_reads_2 1 rfl) (wf57 (v := z31)) (fun H locs hP hS => ?_)
              have hI := hI.st (j := 0) (i := 57) (v := z31) (show (0 : Int) ≤ z31 ∧ z31 ≤ 1 from (by omega))
              refine lv_goto (tgt := 70) hx hb (dk_at dkX12_reads_2 2 rfl) (by decide) ?_
              refine lv_iload_n hx hb (dk_at dkX12_reads_2 6 rfl) rfl (lv_at hl 0 rfl) ?_
              obtain ⟨A36, hA36⟩ : ∃ A36 : St, A36 = (stA A32 0 57 z31) := ⟨_, rfl⟩
              rw [← hA36] at hP hI
              refine lv_if_eq (tgt := 85) hx hb (dk_at dkX12_reads_2 7 rfl) (by decide) (fun c37 => False.elim (by have c37 : z12 = 0 := (i_eq0 (rb f18 (by decide) (by decide))).mp c37; omega)) (fun _ => ?_)
              refine lv_aload_n hx hb (dk_at dkX12_reads_2 8 rfl) rfl (lv_at hl 1 rfl) ?_
              have e_A36_8 : A36 0 8 = (A32 0 8) := by rw [hA36]; exact rfl
              refine va_get (D := (dC, dI)) (ci := 12) (v := .int (iI (A36 0 8))) (C := RX12) (T := TX12) (N := 85) hx hb hts hiX12 hown hK hP 0 wm0 rfl 8 (by decide) (hts _ (List.mem_cons_of_mem _ wlq_0_16)) (fun _ h9 => h9) rfl (dk_at dkX12_reads_2 9 rfl) ?_
              refine tp_i (y := iI (A32 0 8)) (congrArg iI e_A36_8) ?_
              refine lv_if_ne (tgt := 85) hx hb (dk_at dkX12_reads_2 10 rfl) (by decide) (fun c38 => ?_) (fun c38 => ?_)
              · have c38 : ¬ (A32 0 8) = 0 := mt (i_eq0 (rb r_A32_0_8 (by decide) (by decide))).mpr c38
                refine lv_iconst (v := iI 0) hx hb (dk_at dkX12_reads_2 13 rfl) (by decide +kernel) ?_
                refine lv_istore_n (lv' := [(2, .int (iI 0)), (0, .ref (q 0)), (1, .int (iI x1))]) hx hb (dk_at dkX12_reads_2 14 rfl) rfl hl (by decide) rfl (fun ls hl => ?_)
                refine lv_goto (tgt := 43) hx hb (dk_at dkX12_reads_2 15 rfl) (by decide) ?_
                have e_A36_4 : A36 0 4 = (A32 0 4) := by rw [hA36]; exact rfl
                have e_A36_57 : A36 0 57 = z31 := by rw [hA36]; rfl
                have e_A36_3 : A36 0 3 = (A32 0 3) := by rw [hA36]; exact rfl
                have e_A36_5 : A36 0 5 = (A32 0 5) := by rw [hA36]; exact rfl
                have e_A36_7 : A36 0 7 = (A32 0 7) := by rw [hA36]; exact rfl
                have e_A36_46 : A36 0 46 = (A32 0 46) := by rw [hA36]; exact rfl
                have e_A32_47 : A32 0 47 = (A 0 47) := (hf34.2 47 rfl).trans e_A14_47
                have e_A36_47 : A36 0 47 = (A 0 47) := by rw [hA36]; exact e_A32_47
                have e_A36_53 : A36 0 53 = (A32 0 53) := by rw [hA36]; exact rfl
                have e_A36_54 : A36 0 54 = (A32 0 54) := by rw [hA36]; exact rfl
                have e_A36_56 : A36 0 56 = (A32 0 56) := by rw [hA36]; exact rfl
                have r_A32_0_3 : (0 : Int) ≤ (A32 0 3) ∧ (A32 0 3) ≤ 3 := by rw [← e_A36_3]; exact hI 0 3
                have r_A32_0_5 : (0 : Int) ≤ (A32 0 5) ∧ (A32 0 5) ≤ 1600 := by rw [← e_A36_5]; exact hI 0 5
                have r_A32_0_7 : (-9223372036854775808 : Int) ≤ (A32 0 7) ∧ (A32 0 7) ≤ 9223372036854775807 := by rw [← e_A36_7]; exact hI 0 7
                have r_A32_0_46 : (0 : Int) ≤ (A32 0 46) ∧ (A32 0 46) ≤ 1600 := by rw [← e_A36_46]; exact hI 0 46
                have r_A32_0_53 : (0 : Int) ≤ (A32 0 53) ∧ (A32 0 53) ≤ 20 := by rw [← e_A36_53]; exact hI 0 53
                have r_A32_0_54 : (0 : Int) ≤ (A32 0 54) ∧ (A32 0 54) ≤ 8 := by rw [← e_A36_54]; exact hI 0 54
                have r_A32_0_56 : (0 : Int) ≤ (A32 0 56) ∧ (A32 0 56) ≤ 500 := by rw [← e_A36_56]; exact hI 0 56
                exact ih16 _ (by omega) 0 _ _ _ _ (by omega) (by exact Hd.mk ⟨fun h => absurd h (by decide), fun _ h8 => absurd h8 (by omega)⟩) (CI.fr hc35 (fr_def hA36 (fr.sf (fr.rf (M := []) (N := [57])) rfl)) rfl rfl) (fun uq ⟨mm2, hq⟩ => hk2 _ ⟨mm2 + 1, (u_d_X12_reads_2 ⟨gI21.out, ⟨f18, (Or.inr ⟨c22, (Or.inr ⟨c23, ⟨z31, A32, ghw33, ⟨A36, hA36, (Or.inl ⟨c38, hq⟩)⟩⟩⟩)⟩)⟩⟩)⟩) rfl hI (fr_def hA36 (fr.sf (fr.trans (fr.trans (fr.rf) hj13 rfl rfl) hf34 rfl rfl) rfl)) hP hS (lv_sub hl [0, 1, 2] rfl)
              · have c38 : (A32 0 8) = 0 := (i_eq0 (rb r_A32_0_8 (by decide) (by decide))).mp c38
                refine lv_iconst (v := iI 1) hx hb (dk_at dkX12_reads_2 11 rfl) (by decide +kernel) ?_
                refine lv_goto (tgt := 86) hx hb (dk_at dkX12_reads_2 12 rfl) (by decide) ?_
                refine lv_istore_n (lv' := [(2, .int (iI 1)), (0, .ref (q 0)), (1, .int (iI x1))]) hx hb (dk_at dkX12_reads_2 14 rfl) rfl hl (by decide) rfl (fun ls hl => ?_)
                refine lv_goto (tgt := 43) hx hb (dk_at dkX12_reads_2 15 rfl) (by decide) ?_
                have e_A36_4 : A36 0 4 = (A32 0 4) := by rw [hA36]; exact rfl
                have e_A36_57 : A36 0 57 = z31 := by rw [hA36]; rfl
                have e_A36_3 : A36 0 3 = (A32 0 3) := by rw [hA36]; exact rfl
                have e_A36_5 : A36 0 5 = (A32 0 5) := by rw [hA36]; exact rfl
                have e_A36_7 : A36 0 7 = (A32 0 7) := by rw [hA36]; exact rfl
                have e_A36_46 : A36 0 46 = (A32 0 46) := by rw [hA36]; exact rfl
                have e_A32_47 : A32 0 47 = (A 0 47) := (hf34.2 47 rfl).trans e_A14_47
                have e_A36_47 : A36 0 47 = (A 0 47) := by rw [hA36]; exact e_A32_47
                have e_A36_53 : A36 0 53 = (A32 0 53) := by rw [hA36]; exact rfl
                have e_A36_54 : A36 0 54 = (A32 0 54) := by rw [hA36]; exact rfl
                have e_A36_56 : A36 0 56 = (A32 0 56) := by rw [hA36]; exact rfl
                have r_A32_0_3 : (0 : Int) ≤ (A32 0 3) ∧ (A32 0 3) ≤ 3 := by rw [← e_A36_3]; exact hI 0 3
                have r_A32_0_5 : (0 : Int) ≤ (A32 0 5) ∧ (A32 0 5) ≤ 1600 := by rw [← e_A36_5]; exact hI 0 5
                have r_A32_0_7 : (-9223372036854775808 : Int) ≤ (A32 0 7) ∧ (A32 0 7) ≤ 9223372036854775807 := by rw [← e_A36_7]; exact hI 0 7
                have r_A32_0_46 : (0 : Int) ≤ (A32 0 46) ∧ (A32 0 46) ≤ 1600 := by rw [← e_A36_46]; exact hI 0 46
                have r_A32_0_53 : (0 : Int) ≤ (A32 0 53) ∧ (A32 0 53) ≤ 20 := by rw [← e_A36_53]; exact hI 0 53
                have r_A32_0_54 : (0 : Int) ≤ (A32 0 54) ∧ (A32 0 54) ≤ 8 := by rw [← e_A36_54]; exact hI 0 54
                have r_A32_0_56 : (0 : Int) ≤ (A32 0 56) ∧ (A32 0 56) ≤ 500 := by rw [← e_A36_56]; exact hI 0 56
                have kk := hw33.2.out (by omega)
                have kl := kk.2.2
                exact ih16 _ (by omega) 1 _ _ _ _ (by omega) (by exact Hd.mk ⟨fun _ => ⟨by omega, by rw [show A36 0 57 = z31 by omega]; exact RI.fr kk.1 (fr_def hA36 (fr.sf (fr.rf (M := []) (N := [57])) rfl)) rfl rfl, ⟨PR.fr kk.2.1.1 (fr_def hA36 (fr.sf (fr.rf (M := []) (N := [57])) rfl)) rfl rfl, SP.fr kk.2.1.2 (fr_def hA36 (fr.sf (fr.rf (M := []) (N := [57])) rfl)) rfl rfl⟩, by omega⟩, fun h => absurd h (by decide)⟩) (CI.fr hc35 (fr_def hA36 (fr.sf (fr.rf (M := []) (N := [57])) rfl)) rfl rfl) (fun uq ⟨mm2, hq⟩ => hk2 _ ⟨mm2 + 1, (u_d_X12_reads_2 ⟨gI21.out, ⟨f18, (Or.inr ⟨c22, (Or.inr ⟨c23, ⟨z31, A32, ghw33, ⟨A36, hA36, (Or.inr ⟨c38, hq⟩)⟩⟩⟩)⟩)⟩⟩)⟩) rfl hI (fr_def hA36 (fr.sf (fr.trans (fr.trans (fr.rf) hj13 rfl rfl) hf34 rfl rfl) rfl)) hP hS (lv_sub hl [0, 1, 2] rfl)
      have e_A2_3 : A2 0 3 = (A 0 3) := by rw [hA2]; exact rfl
      have e_A2_5 : A2 0 5 = (A 0 5) := by rw [hA2]; exact rfl
      have e_A2_7 : A2 0 7 = (A 0 7) := by rw [hA2]; exact rfl
      have e_A2_46 : A2 0 46 = (A 0 46) := by rw [hA2]; exact rfl
      have e_A2_47 : A2 0 47 = (A 0 47) := by rw [hA2]; exact rfl
      have e_A2_54 : A2 0 54 = 0 := by rw [hA2]; rfl
      have e_A9_3 : A9 0 3 = (A 0 3) := (hf11.2 3 rfl).trans e_A2_3
      have e_A9_5 : A9 0 5 = (A 0 5) := (hf11.2 5 rfl).trans e_A2_5
      have e_A9_7 : A9 0 7 = (A 0 7) := (hf11.2 7 rfl).trans e_A2_7
      have e_A9_46 : A9 0 46 = (A 0 46) := (hf11.2 46 rfl).trans e_A2_46
      have e_A9_47 : A9 0 47 = (A 0 47) := (hf11.2 47 rfl).trans e_A2_47
      have e_A9_54 : A9 0 54 = 0 := (hf11.2 54 rfl).trans e_A2_54
      have e_A9_56 : A9 0 56 = 0 := (hf11.2 56 rfl).trans e_A2_56
      have r_A_0_3 : (0 : Int) ≤ (A 0 3) ∧ (A 0 3) ≤ 3 := by rw [← e_A9_3]; exact hI 0 3
      have r_A_0_5 : (0 : Int) ≤ (A 0 5) ∧ (A 0 5) ≤ 1600 := by rw [← e_A9_5]; exact hI 0 5
      have r_A_0_7 : (-9223372036854775808 : Int) ≤ (A 0 7) ∧ (A 0 7) ≤ 9223372036854775807 := by rw [← e_A9_7]; exact hI 0 7
      have r_A_0_46 : (0 : Int) ≤ (A 0 46) ∧ (A 0 46) ≤ 1600 := by rw [← e_A9_46]; exact hI 0 46
      have r_A_0_47 : (0 : Int) ≤ (A 0 47) ∧ (A 0 47) ≤ 1 := by rw [← e_A9_47]; exact hI 0 47
      have g35 : A9 35 0 = z5 := by rw [hw10.2.1, show A2 0 53 = 0 by omega]; exact up_same _ _ _
      have g39 : A9 39 0 = 0 := by rw [hw10.2.2.2.1, show A2 0 53 = 0 by omega, show A2 0 56 = 0 by omega]; exact up_same _ _ _
      have ca39 : A2 29 = A 29 := by rw [hA2]; exact rfl
      have ca40 : A9 29 = A 29 := (hf11.1 29 (by decide) rfl).trans ca39
      have ca41 : A2 31 = A 31 := by rw [hA2]; exact rfl
      have ca42 : A9 31 = A 31 := (hf11.1 31 (by decide) rfl).trans ca41
      have gs : 1600 * A9 0 47 + A9 0 46 = sA A9 := by unfold sA; rw [ca40, ca42, show A9 0 47 = A 0 47 by omega, hp1]; omega
      have gR : RI 0 A9 := RI.start (k := z5) hI (by omega) (by omega) (by omega) (by omega) g35 g39 gs (CB.fr (CB.fr hp0 (fr_def hA2 (fr.sf (fr.sf (fr.sf (fr.sf (fr.rf (M := []) (N := [53, 54, 56, 57])) rfl) rfl) rfl) rfl)) rfl rfl) hf11 rfl rfl)
      exact L43_15 _ 1 _ _ _ _ (by omega) (by exact Hd.mk ⟨fun _ => ⟨by omega, by rw [show A9 0 57 = 0 by omega]; exact gR, ⟨PR.one (by omega) (by rw [g35]; omega), SP.one (by omega) (by omega)⟩, by omega⟩, fun h => absurd h (by decide)⟩) (CI.fr (CI.fr hcCI (fr_def hA2 (fr.sf (fr.sf (fr.sf (fr.sf (fr.rf (M := []) (N := [53, 54, 56, 57])) rfl) rfl) rfl) rfl)) rfl rfl) hf11 rfl rfl) (fun uq ⟨mm2, hq⟩ => hk1 _ (u_d_X12_reads_1 ⟨f7, ⟨A9, ghw10, ⟨mm2, hq⟩⟩⟩)) rfl hI (fr.rf) hP hS (lv_sub hl [0, 1, 2] rfl)
    refine lv_if_eq (tgt := 37) hx hb (dk_at dkX12_reads_1 2 rfl) (by decide) (fun c3 => ?_) (fun c3 => ?_)
    · have c3 : x1 = 0 := (i_eq0 (rb hx1 (by decide) (by decide))).mp c3
      refine lv_iconst (v := iI 0) hx hb (dk_at dkX12_reads_1 5 rfl) (by decide +kernel) ?_
      exact J38_4 0 _ _ _ (by omega) (by omega) (fun uq hq => (u_r_X12_reads (Or.inl ⟨c1, ⟨A2, hA2, (Or.inl ⟨c3, hq⟩)⟩⟩))) hP hS (lv_sub hl [0, 1] rfl)
    · have c3 : ¬ x1 = 0 := mt (i_eq0 (rb hx1 (by decide) (by decide))).mpr c3
      refine lv_iconst (v := iI 1) hx hb (dk_at dkX12_reads_1 3 rfl) (by decide +kernel) ?_
      refine lv_goto (tgt := 38) hx hb (dk_at dkX12_reads_1 4 rfl) (by decide) ?_
      exact J38_4 1 _ _ _ (by omega) (by omega) (fun uq hq => (u_r_X12_reads (Or.inl ⟨c1, ⟨A2, hA2, (Or.inr ⟨c3, hq⟩)⟩⟩))) hP hS (lv_sub hl [0, 1] rfl)
  · have c1 : ¬ (A 0 8) ≤ 0 := mt (i_le0 (rb r_A_0_8 (by decide) (by decide))).mpr c1
    have r_A_0_4 : (0 : Int) ≤ (A 0 4) ∧ (A 0 4) ≤ 1600 := hI 0 4
    have r_A_0_46 : (0 : Int) ≤ (A 0 46) ∧ (A 0 46) ≤ 1600 := hI 0 46
    have r_A_0_47 : (0 : Int) ≤ (A 0 47) ∧ (A 0 47) ≤ 1 := hI 0 47
    exact RET _ _ _ _ _ ⟨(u_r_X12_reads (Or.inr ⟨c1, rfl⟩)), hI, fr.rf, hcCI, Hd.mk (fun h => absurd h (by omega))⟩ hP hS (dk_at dkX12_reads_0 3 rfl)
theorem dkX12_barring_0 : dkq cX12_barring [(0, .aload_n 0, 1), (1, .aload_n 0, 1), (2, .getfield 134, 3), (5, .aload_n 0, 1), (6, .getfield 155, 3), (9, .iaload, 1), (10, .bipush 6, 2), (12, .if_icmp .ne 7, 3), (15, .iconst 1, 1), (16, .goto 4, 3), (19, .iconst 0, 1), (20, .invokevirtual 394, 3), (23, .ifCond .ne 4, 3), (26, .return_, 1), (27, .bipush 6, 2), (29, .aload_n 0, 1)] = true := by decide +kernel
theorem dkX12_barring_1 : dkq cX12_barring [(30, .getfield 155, 3), (33, .imul, 1), (34, .aload_n 0, 1), (35, .getfield 134, 3), (38, .aload_n 0, 1), (39, .getfield 155, 3), (42, .iaload, 1), (43, .iadd, 1), (44, .istore_n 1, 1), (45, .aload_n 0, 1), (46, .getfield 36, 3), (49, .ifCond .ne 34, 3), (52, .aload_n 0, 1), (53, .getfield 20, 3), (56, .iconst 1, 1), (57, .if_icmp .ne 26, 3)] = true := by decide +kernel
theorem dkX12_barring_2 : dkq cX12_barring [(60, .aload_n 0, 1), (61, .aload_n 0, 1), (62, .getfield 32, 3), (65, .invokevirtual 387, 3), (68, .ifCond .ne 15, 3), (71, .aload_n 0, 1), (72, .iconst 1, 1), (73, .aload_n 0, 1), (74, .getfield 32, 3), (77, .invokevirtual 390, 3), (80, .goto 4, 3), (83, .iconst (-1), 1), (84, .istore_n 2, 1), (85, .iload_n 2, 1), (86, .iconst (-1), 1), (87, .if_icmp .eq 29, 3)] = true := by decide +kernel
theorem dkX12_barring_3 : dkq cX12_barring [(90, .aload_n 0, 1), (91, .getfield 70, 3), (94, .bipush 10, 2), (96, .aload_n 0, 1), (97, .getfield 155, 3), (100, .imul, 1), (101, .iload_n 2, 1), (102, .iadd, 1), (103, .baload, 1), (104, .ifCond .eq 12, 3), (107, .aload_n 0, 1), (108, .iconst 3, 1), (109, .aload_n 0, 1), (110, .getfield 23, 3), (113, .invokevirtual 286, 3), (116, .aload_n 0, 1)] = true := by decide +kernel
theorem dkX12_barring_4 : dkq cX12_barring [(117, .getfield 137, 3), (120, .iload_n 1, 1), (121, .aload_n 0, 1), (122, .iconst 1, 1), (123, .invokevirtual 406, 3), (126, .iastore, 1), (127, .aload_n 0, 1), (128, .ldc2_w 326, 3), (131, .invokevirtual 402, 3), (134, .aload_n 0, 1), (135, .getfield 140, 3), (138, .iload_n 1, 1), (139, .aload_n 0, 1), (140, .getfield 152, 3), (143, .iastore, 1), (144, .aload_n 0, 1)] = true := by decide +kernel
theorem dkX12_barring_5 : dkq cX12_barring [(145, .getfield 36, 3), (148, .ifCond .ne 8, 3), (151, .aload_n 0, 1), (152, .iconst 1, 1), (153, .invokevirtual 423, 3), (156, .aload_n 0, 1), (157, .getfield 143, 3), (160, .iload_n 1, 1), (161, .aload_n 0, 1), (162, .getfield 152, 3), (165, .iastore, 1), (166, .aload_n 0, 1), (167, .getfield 36, 3), (170, .ifCond .ne 16, 3), (173, .aload_n 0, 1), (174, .getfield 134, 3)] = true := by decide +kernel
theorem dkX12_barring_6 : dkq cX12_barring [(177, .aload_n 0, 1), (178, .getfield 155, 3), (181, .dup2, 1), (182, .iaload, 1), (183, .iconst 1, 1), (184, .iadd, 1), (185, .iastore, 1), (186, .return_, 1)] = true := by decide +kernel
abbrev tr_d_X12_barring_5 (z15 : Int) (A : St) (u : St) (A76 : St) : Prop := ((IM A76) ∧ (∃ A80 : St, A80 = (stA A76 32 (6 * (A 0 47) + z15).toNat (A76 0 46)) ∧ (((¬ (A76 0 8) = 0) ∧ (u = A80)) ∨ (((A76 0 8) = 0) ∧ (∃ z97 : Int, z97 = A80 29 ((A 0 47)).toNat ∧ (∃ A98 : St, A98 = (stA A80 29 ((A 0 47)).toNat (z97 + 1)) ∧ (u = A98)))))))
def d_X12_barring_5 (z15 : Int) (A : St) (u : St) (A76 : St) : Prop := tr_d_X12_barring_5 z15 A u A76
theorem u_d_X12_barring_5 {z15 : Int} {A : St} {u : St} {A76 : St} (h : tr_d_X12_barring_5 z15 A u A76) : d_X12_barring_5 z15 A u A76 := h
abbrev tr_d_X12_barring_4 (z15 : Int) (A : St) (u : St) (A39 : St) : Prop := ((IM A39) ∧ (∃ z41 : Int, ∃ A42 : St, q_X12_asked_1 1 A39 z41 A42 ∧ (∃ A46 : St, A46 = (stA A42 30 (6 * (A 0 47) + z15).toNat z41) ∧ (∃ A47 : St, q_X12_must_ 2003330414 A46 A47 ∧ (∃ A51 : St, A51 = (stA A47 31 (6 * (A 0 47) + z15).toNat (A 0 46)) ∧ (((¬ (A47 0 8) = 0) ∧ (d_X12_barring_5 z15 A u A51)) ∨ (((A47 0 8) = 0) ∧ (∃ A71 : St, q_X12_reads 1 A51 A71 ∧ (d_X12_barring_5 z15 A u A71)))))))))
def d_X12_barring_4 (z15 : Int) (A : St) (u : St) (A39 : St) : Prop := tr_d_X12_barring_4 z15 A u A39
theorem u_d_X12_barring_4 {z15 : Int} {A : St} {u : St} {A39 : St} (h : tr_d_X12_barring_4 z15 A u A39) : d_X12_barring_4 z15 A u A39 := h
abbrev tr_d_X12_barring_3 (z15 : Int) (A : St) (A10 : St) (u : St) (z28 : Int) : Prop := ((-1 ≤ z28 ∧ z28 ≤ 9) ∧ (((z28 = (-1)) ∧ (d_X12_barring_4 z15 A u A10)) ∨ ((¬ z28 = (-1)) ∧ (∃ z33 : Int, z33 = A10 8 (10 * (A 0 47) + z28).toNat ∧ (((z33 = 0) ∧ (d_X12_barring_4 z15 A u A10)) ∨ ((¬ z33 = 0) ∧ (∃ A35 : St, q_X12_blame 3 (A10 0 4) A10 A35 ∧ (d_X12_barring_4 z15 A u A35))))))))
def d_X12_barring_3 (z15 : Int) (A : St) (A10 : St) (u : St) (z28 : Int) : Prop := tr_d_X12_barring_3 z15 A A10 u z28
theorem u_d_X12_barring_3 {z15 : Int} {A : St} {A10 : St} {u : St} {z28 : Int} (h : tr_d_X12_barring_3 z15 A A10 u z28) : d_X12_barring_3 z15 A A10 u z28 := h
abbrev tr_d_X12_barring_2 (z15 : Int) (A : St) (A10 : St) (u : St) : Prop := (d_X12_barring_3 z15 A A10 u (-1))
def d_X12_barring_2 (z15 : Int) (A : St) (A10 : St) (u : St) : Prop := tr_d_X12_barring_2 z15 A A10 u
theorem u_d_X12_barring_2 {z15 : Int} {A : St} {A10 : St} {u : St} (h : tr_d_X12_barring_2 z15 A A10 u) : d_X12_barring_2 z15 A A10 u := h
abbrev tr_d_X12_barring_1 (A : St) (u : St) (z4 : Int) : Prop := ((0 ≤ z4 ∧ z4 ≤ 1) ∧ (∃ z9 : Int, ∃ A10 : St, q_X12_counts z4 A z9 A10 ∧ (((¬ z9 = 0) ∧ (∃ z15 : Int, z15 = A10 29 ((A 0 47)).toNat ∧ (((¬ (A10 0 8) = 0) ∧ (d_X12_barring_2 z15 A A10 u)) ∨ (((A10 0 8) = 0) ∧ (((¬ (A10 0 3) = 1) ∧ (d_X12_barring_2 z15 A A10 u)) ∨ (((A10 0 3) = 1) ∧ (∃ z20 : Int, q_X12_isOwn (A10 0 7) A10 z20 ∧ (((¬ z20 = 0) ∧ (d_X12_barring_2 z15 A A10 u)) ∨ ((z20 = 0) ∧ (∃ z24 : Int, q_X12_named_1 1 (A10 0 7) A10 z24 ∧ (d_X12_barring_3 z15 A A10 u z24))))))))))) ∨ ((z9 = 0) ∧ (u = A10)))))
def d_X12_barring_1 (A : St) (u : St) (z4 : Int) : Prop := tr_d_X12_barring_1 A u z4
theorem u_d_X12_barring_1 {A : St} {u : St} {z4 : Int} (h : tr_d_X12_barring_1 A u z4) : d_X12_barring_1 A u z4 := h
abbrev tr_r_X12_barring (A : St) (u : St) : Prop := (∃ z1 : Int, z1 = A 29 ((A 0 47)).toNat ∧ (((¬ z1 = 6) ∧ (d_X12_barring_1 A u 0)) ∨ ((z1 = 6) ∧ (d_X12_barring_1 A u 1))))
def r_X12_barring (A : St) (u : St) : Prop := tr_r_X12_barring A u
theorem u_r_X12_barring {A : St} {u : St} (h : tr_r_X12_barring A u) : r_X12_barring A u := h
def q_X12_barring (A : St) (u : St) : Prop := r_X12_barring A u ∧ IM u ∧ fr [29, 30, 31, 32, 33, 34, 35, 36, 37, 38, 39, 40] [3, 4, 5, 6, 7, 8, 9, 46, 53, 54, 56, 57] A u ∧ CI u ∧ (Hd (u 0 8 = 0 → CB u ∧ A 0 5 ≤ u 0 4))
def ws_mb_X12_barring : List Cond := .code yX12_barring cX12_barring 3 none :: WX
set_option maxHeartbeats 4000000 in
set_option maxRecDepth 100000 in
theorem mb_X12_barring (l : Launch) (dC : Nat → ClassId) (dI : Nat → Nat → Nat) (cB cI cJ cZ cQ : ClassId) (q : Nat → Nat) (A : St) (hI : IM A) (hp0 : CB A) (hcCI : CI A) : XMv l yX12_barring ws_mb_X12_barring ({ frames := 5, cells := 0, slots := 0, locals := 113 } : Room) (dC, dI) (tyA cB cI cJ cZ cQ) (WM cI cJ cZ q) A [.ref (q 0)] (fun u => r_X12_barring A u ∧ IM u ∧ fr [29, 30, 31, 32, 33, 34, 35, 36, 37, 38, 39, 40] [3, 4, 5, 6, 7, 8, 9, 46, 53, 54, 56, 57] A u ∧ CI u ∧ (Hd (u 0 8 = 0 → CB u ∧ A 0 5 ≤ u 0 4))) := by
  refine x_metv (cc := cX12_barring) (maxL := 3) WM_adr (by decide +kernel) rfl (Nat.le_of_ble_eq_true rfl) (fun p e s m below meth c Q AS ls hx hb hml hown hts hK hDD hA0 hP hS hl RET => ?_)
  have hown : s.vm.findClass RX12 = some m.cls := hown
  have hl : lv_has ls 3 [(0, .ref (q 0))] := hl
  have hiX12 : ∀ w ∈ u_ws RX12 TX12 85, w ∈ ws_mb_X12_barring := fun w h => List.mem_cons_of_mem _ (wx_lay w h)
  obtain ⟨H, hHe⟩ : ∃ H : Heap, H = s.heap := ⟨_, rfl⟩
  rw [← hHe] at hP
  have hS : va_S AS s.heap H [] := by rw [hHe]; exact hS
  suffices hgo : ∀ locs : List Loc, va_S AS s.heap H locs → W p l e (headSpec ws_mb_X12_barring ({ frames := 5, cells := 0, slots := 0, locals := 113 } : Room)).room s m [.ref (q 0)].toArray below meth c H locs 0 0 Q (F0 m 0 ls []) by
    have := hgo [] hS
    rw [hHe] at this
    exact this
  clear hS hHe
  intro locs hS
  have hle := CB.le hp0
  refine lv_aload_n hx hb (dk_at dkX12_barring_0 0 rfl) rfl (lv_at hl 0 rfl) ?_
  refine lv_aload_n hx hb (dk_at dkX12_barring_0 1 rfl) rfl (lv_at hl 0 rfl) ?_
  refine va_get (D := (dC, dI)) (ci := 12) (v := .ref (q 29)) (C := RX12) (T := TX12) (N := 85) hx hb hts hiX12 hown hK hP 0 wm0 rfl 40 (by decide) (hts _ (List.mem_cons_of_mem _ wlq_3_25)) (fun _ h9 => h9) rfl (dk_at dkX12_barring_0 2 rfl) ?_
  refine lv_aload_n hx hb (dk_at dkX12_barring_0 3 rfl) rfl (lv_at hl 0 rfl) ?_
  refine va_get (D := (dC, dI)) (ci := 12) (v := .int (iI (A 0 47))) (C := RX12) (T := TX12) (N := 85) hx hb hts hiX12 hown hK hP 0 wm0 rfl 47 (by decide) (hts _ (List.mem_cons_of_mem _ wlq_1_12)) (fun _ h9 => h9) rfl (dk_at dkX12_barring_0 4 rfl) ?_
  have r_A_0_47 : (0 : Int) ≤ (A 0 47) ∧ (A 0 47) ≤ 1 := hI 0 47
  refine x_iald hx hb hK hP 29 1 wm29 rfl (by omega) (by decide) (dk_at dkX12_barring_0 5 rfl) (fun z1 hz1 => ?_)
  have rz1 : (0 : Int) ≤ z1 ∧ z1 ≤ 6 := by rw [hz1]; exact hI 29 _
  have gz1 := Hd.mk hz1
  have hz1 : z1 = A 29 ((A 0 47)).toNat := hz1
  refine lv_bipush (v := iI 6) hx hb (dk_at dkX12_barring_0 6 rfl) (by decide +kernel) ?_
  have J20_3 : ∀ (z4 : Int) (H : Heap) (locs : List Loc) (ls : Array Slot), (0 ≤ z4 ∧ z4 ≤ 1) → ((z4 = 0 ∧ ¬ z1 = 6) ∨ (z4 = 1 ∧ z1 = 6)) → (Hd ((z4 = 1 ∧ A 29 (A 0 47).toNat = 6) ∨ (z4 = 0 ∧ ¬ A 29 (A 0 47).toNat = 6))) → (∀ (u : St), (d_X12_barring_1 A u z4) → r_X12_barring A u) → va_P (dC, dI) vwCl (WM cI cJ cZ q A) H → va_S AS s.heap H locs → lv_has ls 3 [(0, .ref (q 0))] → W p l e (headSpec ws_mb_X12_barring ({ frames := 5, cells := 0, slots := 0, locals := 113 } : Room)).room s m [.ref (q 0)].toArray below meth c H locs 0 0 Q (F0 m 20 ls [.int (iI z4), .ref (q 0)]) := by
    intro z4 H locs ls f6 f7 f8 hk1 hP hS hl
    have r_A_0_4 : (0 : Int) ≤ (A 0 4) ∧ (A 0 4) ≤ 1600 := hI 0 4
    have r_A_0_5 : (0 : Int) ≤ (A 0 5) ∧ (A 0 5) ≤ 1600 := hI 0 5
    refine x_calli (As := [.int (iI z4)]) (rest := []) ⟨hx, hb, hml, hown, hts⟩ (mb_X12_counts l dC dI cB cI cJ cZ cQ q _ z4 hI f6 hp0) (cwV 1 hts (goodV wlq_2_32 wlq_2_33 wlq_2_34 wlq_0_8 wlq_2_20) rfl rfl rfl (by decide +kernel) ⟨Nat.le_of_ble_eq_true rfl, Nat.le_of_ble_eq_true rfl⟩) hK hDD hA0 hP hS 0 12 wm0 rfl rfl hl.1 (Nat.le_of_ble_eq_true rfl) (dk_at dkX12_barring_0 11 rfl) (fun z9 A10 H locs hw11 hP hS => ?_)
    have ghw11 : q_X12_counts z4 A z9 A10 := hw11
    obtain ⟨_, hI, hf12, hw11⟩ := hw11
    obtain ⟨hc13, hw11⟩ := hw11
    have r_A10_0_4 : (0 : Int) ≤ (A10 0 4) ∧ (A10 0 4) ≤ 1600 := hI 0 4
    have r_A10_0_8 : (0 : Int) ≤ (A10 0 8) ∧ (A10 0 8) ≤ 5 := hI 0 8
    have rz9 : 0 ≤ z9 ∧ z9 ≤ 1 := hw11.1
    refine lv_if_ne (tgt := 27) hx hb (dk_at dkX12_barring_0 12 rfl) (by decide) (fun c14 => ?_) (fun c14 => ?_)
    · have c14 : ¬ z9 = 0 := mt (i_eq0 (rb rz9 (by decide) (by decide))).mpr c14
      refine lv_bipush (v := iI 6) hx hb (dk_at dkX12_barring_0 14 rfl) (by decide +kernel) ?_
      refine lv_aload_n hx hb (dk_at dkX12_barring_0 15 rfl) rfl (lv_at hl 0 rfl) ?_
      have e_A10_47 : A10 0 47 = (A 0 47) := (hf12.2 47 rfl)
      refine va_get (D := (dC, dI)) (ci := 12) (v := .int (iI (A10 0 47))) (C := RX12) (T := TX12) (N := 85) hx hb hts hiX12 hown hK hP 0 wm0 rfl 47 (by decide) (hts _ (List.mem_cons_of_mem _ wlq_1_12)) (fun _ h9 => h9) rfl (dk_at dkX12_barring_1 0 rfl) ?_
      refine tp_i (y := iI (A 0 47)) (congrArg iI e_A10_47) ?_
      refine x_mulv (v := 6 * (A 0 47)) hx hb (dk_at dkX12_barring_1 1 rfl) (by omega) ?_
      refine lv_aload_n hx hb (dk_at dkX12_barring_1 2 rfl) rfl (lv_at hl 0 rfl) ?_
      refine va_get (D := (dC, dI)) (ci := 12) (v := .ref (q 29)) (C := RX12) (T := TX12) (N := 85) hx hb hts hiX12 hown hK hP 0 wm0 rfl 40 (by decide) (hts _ (List.mem_cons_of_mem _ wlq_3_25)) (fun _ h9 => h9) rfl (dk_at dkX12_barring_1 3 rfl) ?_
      refine lv_aload_n hx hb (dk_at dkX12_barring_1 4 rfl) rfl (lv_at hl 0 rfl) ?_
      refine va_get (D := (dC, dI)) (ci := 12) (v := .int (iI (A10 0 47))) (C := RX12) (T := TX12) (N := 85) hx hb hts hiX12 hown hK hP 0 wm0 rfl 47 (by decide) (hts _ (List.mem_cons_of_mem _ wlq_1_12)) (fun _ h9 => h9) rfl (dk_at dkX12_barring_1 5 rfl) ?_
      refine tp_i (y := iI (A 0 47)) (congrArg iI e_A10_47) ?_
      have a_A10_29 : A10 29 = A 29 := (hf12.1 29 (by decide) rfl)
      refine x_iald hx hb hK hP 29 1 wm29 rfl (by omega) (by decide) (dk_at dkX12_barring_1 6 rfl) (fun z15 hz15 => ?_)
      have rz15 : (0 : Int) ≤ z15 ∧ z15 ≤ 6 := by rw [hz15]; exact hI 29 _
      have gz15 := Hd.mk hz15
      have hz15 : z15 = A 29 ((A 0 47)).toNat := hz15.trans (congrFun a_A10_29 _)
      have ez15 : z15 = z1 := hz15.trans hz1.symm
      refine x_addv (v := 6 * (A 0 47) + z15) hx hb (dk_at dkX12_barring_1 7 rfl) (by omega) ?_
      refine lv_istore_n (lv' := [(1, .int (iI (6 * (A 0 47) + z15))), (0, .ref (q 0))]) hx hb (dk_at dkX12_barring_1 8 rfl) rfl hl (by decide) rfl (fun ls hl => ?_)
      refine lv_aload_n hx hb (dk_at dkX12_barring_1 9 rfl) rfl (lv_at hl 1 rfl) ?_
      refine va_get (D := (dC, dI)) (ci := 12) (v := .int (iI (A10 0 8))) (C := RX12) (T := TX12) (N := 85) hx hb hts hiX12 hown hK hP 0 wm0 rfl 8 (by decide) (hts _ (List.mem_cons_of_mem _ wlq_0_16)) (fun _ h9 => h9) rfl (dk_at dkX12_barring_1 10 rfl) ?_
      have J84_18 : ∀ (z28 : Int) (H : Heap) (locs : List Loc) (ls : Array Slot), (-1 ≤ z28 ∧ z28 ≤ 9) → (∀ (u : St), (d_X12_barring_3 z15 A A10 u z28) → r_X12_barring A u) → va_P (dC, dI) vwCl (WM cI cJ cZ q A10) H → va_S AS s.heap H locs → lv_has ls 3 [(1, .int (iI (6 * (A 0 47) + z15))), (0, .ref (q 0))] → W p l e (headSpec ws_mb_X12_barring ({ frames := 5, cells := 0, slots := 0, locals := 113 } : Room)).room s m [.ref (q 0)].toArray below meth c H locs 0 0 Q (F0 m 84 ls [.int (iI z28)]) := by
        intro z28 H locs ls f30 hk3 hP hS hl
        refine lv_istore_n (lv' := [(2, .int (iI z28)), (1, .int (iI (6 * (A 0 47) + z15))), (0, .ref (q 0))]) hx hb (dk_at dkX12_barring_2 12 rfl) rfl hl (by decide) rfl (fun ls hl => ?_)
        refine lv_iload_n hx hb (dk_at dkX12_barring_2 13 rfl) rfl (lv_at hl 0 rfl) ?_
        refine lv_iconst (v := iI (-1)) hx hb (dk_at dkX12_barring_2 14 rfl) (by decide +kernel) ?_
        have J116_32 : ∀ (A39 : St) (H : Heap) (locs : List Loc) (ls : Array Slot), (∀ (u : St), (d_X12_barring_4 z15 A u A39) → r_X12_barring A u) → IM A39 → fr [] [8, 9] A10 A39 → va_P (dC, dI) vwCl (WM cI cJ cZ q A39) H → va_S AS s.heap H locs → lv_has ls 3 [(2, .int (iI z28)), (1, .int (iI (6 * (A 0 47) + z15))), (0, .ref (q 0))] → W p l e (headSpec ws_mb_X12_barring ({ frames := 5, cells := 0, slots := 0, locals := 113 } : Room)).room s m [.ref (q 0)].toArray below meth c H locs 0 0 Q (F0 m 116 ls []) := by
          intro A39 H locs ls hk4 hI hj38 hP hS hl
          have gI40 : Hd (IM A39) := Hd.mk hI
          refine lv_aload_n hx hb (dk_at dkX12_barring_3 15 rfl) rfl (lv_at hl 2 rfl) ?_
          refine va_get (D := (dC, dI)) (ci := 12) (v := .ref (q 30)) (C := RX12) (T := TX12) (N := 85) hx hb hts hiX12 hown hK hP 0 wm0 rfl 41 (by decide) (hts _ (List.mem_cons_of_mem _ wlq_3_26)) (fun _ h9 => h9) rfl (dk_at dkX12_barring_4 0 rfl) ?_
          refine lv_iload_n hx hb (dk_at dkX12_barring_4 1 rfl) rfl (lv_at hl 1 rfl) ?_
          refine lv_aload_n hx hb (dk_at dkX12_barring_4 2 rfl) rfl (lv_at hl 2 rfl) ?_
          refine lv_iconst (v := iI 1) hx hb (dk_at dkX12_barring_4 3 rfl) (by decide +kernel) ?_
          have e_A39_3 : A39 0 3 = (A10 0 3) := (hj38.2 3 rfl)
          have r_A10_0_3 : (0 : Int) ≤ (A10 0 3) ∧ (A10 0 3) ≤ 3 := by rw [← e_A39_3]; exact hI 0 3
          have e_A39_4 : A39 0 4 = (A10 0 4) := (hj38.2 4 rfl)
          have e_A39_7 : A39 0 7 = (A10 0 7) := (hj38.2 7 rfl)
          have r_A10_0_7 : (-9223372036854775808 : Int) ≤ (A10 0 7) ∧ (A10 0 7) ≤ 9223372036854775807 := by rw [← e_A39_7]; exact hI 0 7
          have r_A39_0_8 : (0 : Int) ≤ (A39 0 8) ∧ (A39 0 8) ≤ 5 := hI 0 8
          have e_A39_47 : A39 0 47 = (A 0 47) := (hj38.2 47 rfl).trans e_A10_47
          refine x_calli (As := [.int (iI 1)]) (rest := [.int (iI (6 * (A 0 47) + z15)), .ref (q 30)]) ⟨hx, hb, hml, hown, hts⟩ (mb_X12_asked_1 l dC dI cB cI cJ cZ cQ q _ 1 hI ⟨by decide, by decide⟩ (CB.fr hc13 hj38 rfl rfl)) (cwV 1 hts (goodV wlq_2_47 wlq_2_48 wlq_2_49 wlq_0_8 wlq_2_29) rfl rfl rfl (by decide +kernel) ⟨Nat.le_of_ble_eq_true rfl, Nat.le_of_ble_eq_true rfl⟩) hK hDD hA0 hP hS 0 12 wm0 rfl rfl hl.1 (Nat.le_of_ble_eq_true rfl) (dk_at dkX12_barring_4 4 rfl) (fun z41 A42 H locs hw43 hP hS => ?_)
          have ghw43 : q_X12_asked_1 1 A39 z41 A42 := hw43
          obtain ⟨_, hI, hf44, hw43⟩ := hw43
          obtain ⟨hc45, hw43⟩ := hw43
          have r_A42_0_4 : (0 : Int) ≤ (A42 0 4) ∧ (A42 0 4) ≤ 1600 := hI 0 4
          have r_A42_0_8 : (0 : Int) ≤ (A42 0 8) ∧ (A42 0 8) ≤ 5 := hI 0 8
          refine x_iast hx hb hK hP hDD hS 30 1 wm30 rfl (by omega) (by decide) (dk_at dkX12_barring_4 5 rfl) ws30 (fun H locs hP hS => ?_)
          have hI := hI.st (j := 30) (i := (6 * (A 0 47) + z15).toNat) (v := z41) (show (0 : Int) ≤ z41 ∧ z41 ≤ 9 from (by omega))
          refine lv_aload_n hx hb (dk_at dkX12_barring_4 6 rfl) rfl (lv_at hl 2 rfl) ?_
          refine lv_ldc2 (v := 2003330414) hx hb hown (hts _ (List.mem_cons_of_mem _ wlq_0_59)) (dk_at dkX12_barring_4 7 rfl) ?_
          refine tp_l (y := jI 2003330414) (by decide +kernel) ?_
          obtain ⟨A46, hA46⟩ : ∃ A46 : St, A46 = (stA A42 30 (6 * (A 0 47) + z15).toNat z41) := ⟨_, rfl⟩
          rw [← hA46] at hP hI
          have e_A46_4 : A46 0 4 = (A42 0 4) := by rw [hA46]; exact rfl
          refine x_callv (As := [.long (jI 2003330414)]) (rest := []) ⟨hx, hb, hml, hown, hts⟩ (mb_X12_must_ l dC dI cB cI cJ cZ cQ q _ 2003330414 hI ⟨by decide, by decide⟩ (CB.fr hc45 (fr_def hA46 (fr.st (fr.rf (M := [30]) (N := [])) (by decide) rfl)) rfl rfl)) (cwV 1 hts (goodV wlq_2_44 wlq_2_45 wlq_2_46 wlq_0_8 wlq_2_21) rfl rfl rfl (by decide +kernel) ⟨Nat.le_of_ble_eq_true rfl, Nat.le_of_ble_eq_true rfl⟩) hK hDD hA0 hP hS 0 12 wm0 rfl rfl hl.1 (Nat.le_of_ble_eq_true rfl) (dk_at dkX12_barring_4 8 rfl) (fun A47 H locs hw48 hP hS => ?_)
          have ghw48 : q_X12_must_ 2003330414 A46 A47 := hw48
          obtain ⟨_, hI, hf49, hw48⟩ := hw48
          obtain ⟨hc50, hw48⟩ := hw48
          have r_A47_0_4 : (0 : Int) ≤ (A47 0 4) ∧ (A47 0 4) ≤ 1600 := hI 0 4
          have hIa := hI
          refine lv_aload_n hx hb (dk_at dkX12_barring_4 9 rfl) rfl (lv_at hl 2 rfl) ?_
          refine va_get (D := (dC, dI)) (ci := 12) (v := .ref (q 31)) (C := RX12) (T := TX12) (N := 85) hx hb hts hiX12 hown hK hP 0 wm0 rfl 42 (by decide) (hts _ (List.mem_cons_of_mem _ wlq_3_27)) (fun _ h9 => h9) rfl (dk_at dkX12_barring_4 10 rfl) ?_
          refine lv_iload_n hx hb (dk_at dkX12_barring_4 11 rfl) rfl (lv_at hl 1 rfl) ?_
          refine lv_aload_n hx hb (dk_at dkX12_barring_4 12 rfl) rfl (lv_at hl 2 rfl) ?_
          have e_A10_46 : A10 0 46 = (A 0 46) := (hf12.2 46 rfl)
          have e_A39_46 : A39 0 46 = (A 0 46) := (hj38.2 46 rfl).trans e_A10_46
          have e_A42_46 : A42 0 46 = (A 0 46) := (hf44.2 46 rfl).trans e_A39_46
          have e_A46_46 : A46 0 46 = (A 0 46) := by rw [hA46]; exact e_A42_46
          have e_A47_46 : A47 0 46 = (A 0 46) := (hf49.2 46 rfl).trans e_A46_46
          refine va_get (D := (dC, dI)) (ci := 12) (v := .int (iI (A47 0 46))) (C := RX12) (T := TX12) (N := 85) hx hb hts hiX12 hown hK hP 0 wm0 rfl 46 (by decide) (hts _ (List.mem_cons_of_mem _ wlq_1_31)) (fun _ h9 => h9) rfl (dk_at dkX12_barring_4 13 rfl) ?_
          refine tp_i (y := iI (A 0 46)) (congrArg iI e_A47_46) ?_
          have r_A_0_46 : (0 : Int) ≤ (A 0 46) ∧ (A 0 46) ≤ 1600 := by rw [← e_A47_46]; exact hI 0 46
          refine x_iast hx hb hK hP hDD hS 31 1 wm31 rfl (by omega) (by decide) (dk_at dkX12_barring_4 14 rfl) ws31 (fun H locs hP hS => ?_)
          have hI := hI.st (j := 31) (i := (6 * (A 0 47) + z15).toNat) (v := (A 0 46)) (show (0 : Int) ≤ (A 0 46) ∧ (A 0 46) ≤ 1600 from (by omega))
          obtain ⟨A51, hA51⟩ : ∃ A51 : St, A51 = (stA A47 31 (6 * (A 0 47) + z15).toNat (A 0 46)) := ⟨_, rfl⟩
          rw [← hA51] at hP hI
          have g31 : A51 31 = up (A47 31) (6 * (A 0 47) + z15).toNat (A 0 46) := by rw [hA51]; rfl
          have ca53 : A10 29 = A 29 := (hf12.1 29 (by decide) rfl)
          have ca54 : A39 29 = A 29 := (hj38.1 29 (by decide) rfl).trans ca53
          have ca55 : A42 29 = A 29 := (hf44.1 29 (by decide) rfl).trans ca54
          have ca56 : A46 29 = A 29 := by rw [hA46]; exact ca55
          have ca57 : A47 29 = A 29 := (hf49.1 29 (by decide) rfl).trans ca56
          have e_A42_47 : A42 0 47 = (A 0 47) := (hf44.2 47 rfl).trans e_A39_47
          have e_A46_47 : A46 0 47 = (A 0 47) := by rw [hA46]; exact e_A42_47
          have e_A47_47 : A47 0 47 = (A 0 47) := (hf49.2 47 rfl).trans e_A46_47
          have ca58 : A10 29 = A 29 := (hf12.1 29 (by decide) rfl)
          have ca59 : A39 29 = A 29 := (hj38.1 29 (by decide) rfl).trans ca58
          have ca60 : A42 29 = A 29 := (hf44.1 29 (by decide) rfl).trans ca59
          have ca61 : A46 29 = A 29 := by rw [hA46]; exact ca60
          have ca62 : A47 29 = A 29 := (hf49.1 29 (by decide) rfl).trans ca61
          have hc52 : CI A51 := CI.s31 (v := (A 0 46)) (CI.fr (CI.fr (CI.fr (CI.fr (CI.fr hcCI hf12 rfl rfl) hj38 rfl rfl) hf44 rfl rfl) (fr_def hA46 (fr.st (fr.rf (M := [30]) (N := [])) (by decide) rfl)) rfl rfl) hf49 rfl rfl) hIa (by rw [ca57, e_A47_47]; have g := f8.out; omega) (by rw [hA51]; rfl) (g31.trans (by rw [show 6 * A47 0 47 + A47 29 (A47 0 47).toNat = 6 * (A 0 47) + z15 by rw [ca62, e_A47_47]; omega])) (by rw [hA51]; rfl) (by rw [hA51]; rfl) (by rw [hA51]; rfl) (by rw [hA51]; rfl)
          refine lv_aload_n hx hb (dk_at dkX12_barring_4 15 rfl) rfl (lv_at hl 2 rfl) ?_
          have e_A51_8 : A51 0 8 = (A47 0 8) := by rw [hA51]; exact rfl
          refine va_get (D := (dC, dI)) (ci := 12) (v := .int (iI (A51 0 8))) (C := RX12) (T := TX12) (N := 85) hx hb hts hiX12 hown hK hP 0 wm0 rfl 8 (by decide) (hts _ (List.mem_cons_of_mem _ wlq_0_16)) (fun _ h9 => h9) rfl (dk_at dkX12_barring_5 0 rfl) ?_
          refine tp_i (y := iI (A47 0 8)) (congrArg iI e_A51_8) ?_
          have r_A47_0_8 : (0 : Int) ≤ (A47 0 8) ∧ (A47 0 8) ≤ 5 := by rw [← e_A51_8]; exact hI 0 8
          have J156_64 : ∀ (A76 : St) (H : Heap) (locs : List Loc) (ls : Array Slot), (Hd ((A76 0 8) = 0 → DP (A76 33) (sA A76) (1600 * A76 0 47 + A76 0 46) 1 ∧ CB A76 ∧ A 0 5 ≤ (A76 0 4))) → (CI A76) → (∀ (u : St), (d_X12_barring_5 z15 A u A76) → r_X12_barring A u) → IM A76 → fr [33, 34, 35, 36, 37, 38, 39, 40] [3, 4, 5, 6, 7, 8, 9, 46, 53, 54, 56, 57] A51 A76 → va_P (dC, dI) vwCl (WM cI cJ cZ q A76) H → va_S AS s.heap H locs → lv_has ls 3 [(2, .int (iI z28)), (1, .int (iI (6 * (A 0 47) + z15))), (0, .ref (q 0))] → W p l e (headSpec ws_mb_X12_barring ({ frames := 5, cells := 0, slots := 0, locals := 113 } : Room)).room s m [.ref (q 0)].toArray below meth c H locs 0 0 Q (F0 m 156 ls []) := by
            intro A76 H locs ls f77 hc78 hk5 hI hj75 hP hS hl
            have gI79 : Hd (IM A76) := Hd.mk hI
            have hIb := hI
            refine lv_aload_n hx hb (dk_at dkX12_barring_5 5 rfl) rfl (lv_at hl 2 rfl) ?_
            refine va_get (D := (dC, dI)) (ci := 12) (v := .ref (q 32)) (C := RX12) (T := TX12) (N := 85) hx hb hts hiX12 hown hK hP 0 wm0 rfl 43 (by decide) (hts _ (List.mem_cons_of_mem _ wlq_3_28)) (fun _ h9 => h9) rfl (dk_at dkX12_barring_5 6 rfl) ?_
            refine lv_iload_n hx hb (dk_at dkX12_barring_5 7 rfl) rfl (lv_at hl 1 rfl) ?_
            refine lv_aload_n hx hb (dk_at dkX12_barring_5 8 rfl) rfl (lv_at hl 2 rfl) ?_
            refine va_get (D := (dC, dI)) (ci := 12) (v := .int (iI (A76 0 46))) (C := RX12) (T := TX12) (N := 85) hx hb hts hiX12 hown hK hP 0 wm0 rfl 46 (by decide) (hts _ (List.mem_cons_of_mem _ wlq_1_31)) (fun _ h9 => h9) rfl (dk_at dkX12_barring_5 9 rfl) ?_
            have r_A76_0_46 : (0 : Int) ≤ (A76 0 46) ∧ (A76 0 46) ≤ 1600 := hI 0 46
            refine x_iast hx hb hK hP hDD hS 32 1 wm32 rfl (by omega) (by decide) (dk_at dkX12_barring_5 10 rfl) ws32 (fun H locs hP hS => ?_)
            have hI := hI.st (j := 32) (i := (6 * (A 0 47) + z15).toNat) (v := (A76 0 46)) (show (0 : Int) ≤ (A76 0 46) ∧ (A76 0 46) ≤ 1600 from (by omega))
            obtain ⟨A80, hA80⟩ : ∃ A80 : St, A80 = (stA A76 32 (6 * (A 0 47) + z15).toNat (A76 0 46)) := ⟨_, rfl⟩
            rw [← hA80] at hP hI
            have g32 : A80 32 = up (A76 32) (6 * (A 0 47) + z15).toNat (A76 0 46) := by rw [hA80]; rfl
            have ca82 : A10 29 = A 29 := (hf12.1 29 (by decide) rfl)
            have ca83 : A39 29 = A 29 := (hj38.1 29 (by decide) rfl).trans ca82
            have ca84 : A42 29 = A 29 := (hf44.1 29 (by decide) rfl).trans ca83
            have ca85 : A46 29 = A 29 := by rw [hA46]; exact ca84
            have ca86 : A47 29 = A 29 := (hf49.1 29 (by decide) rfl).trans ca85
            have ca87 : A51 29 = A 29 := by rw [hA51]; exact ca86
            have ca88 : A76 29 = A 29 := (hj75.1 29 (by decide) rfl).trans ca87
            have e_A51_47 : A51 0 47 = (A 0 47) := by rw [hA51]; exact e_A47_47
            have e_A76_47 : A76 0 47 = (A 0 47) := (hj75.2 47 rfl).trans e_A51_47
            have ca89 : A10 29 = A 29 := (hf12.1 29 (by decide) rfl)
            have ca90 : A39 29 = A 29 := (hj38.1 29 (by decide) rfl).trans ca89
            have ca91 : A42 29 = A 29 := (hf44.1 29 (by decide) rfl).trans ca90
            have ca92 : A46 29 = A 29 := by rw [hA46]; exact ca91
            have ca93 : A47 29 = A 29 := (hf49.1 29 (by decide) rfl).trans ca92
            have ca94 : A51 29 = A 29 := by rw [hA51]; exact ca93
            have ca95 : A76 29 = A 29 := (hj75.1 29 (by decide) rfl).trans ca94
            have hc81 : CI A80 := CI.s32 (v := (A76 0 46)) hc78 hIb (by rw [ca88, e_A76_47]; have g := f8.out; omega) (by rw [hA80]; rfl) (by rw [hA80]; rfl) (g32.trans (by rw [show 6 * A76 0 47 + A76 29 (A76 0 47).toNat = 6 * (A 0 47) + z15 by rw [ca95, e_A76_47]; omega])) (by rw [hA80]; rfl) (by rw [hA80]; rfl) (by rw [hA80]; rfl)
            have hIc := hI
            refine lv_aload_n hx hb (dk_at dkX12_barring_5 11 rfl) rfl (lv_at hl 2 rfl) ?_
            have e_A80_8 : A80 0 8 = (A76 0 8) := by rw [hA80]; exact rfl
            refine va_get (D := (dC, dI)) (ci := 12) (v := .int (iI (A80 0 8))) (C := RX12) (T := TX12) (N := 85) hx hb hts hiX12 hown hK hP 0 wm0 rfl 8 (by decide) (hts _ (List.mem_cons_of_mem _ wlq_0_16)) (fun _ h9 => h9) rfl (dk_at dkX12_barring_5 12 rfl) ?_
            refine tp_i (y := iI (A76 0 8)) (congrArg iI e_A80_8) ?_
            have r_A76_0_8 : (0 : Int) ≤ (A76 0 8) ∧ (A76 0 8) ≤ 5 := by rw [← e_A80_8]; exact hI 0 8
            refine lv_if_ne (tgt := 186) hx hb (dk_at dkX12_barring_5 13 rfl) (by decide) (fun c96 => ?_) (fun c96 => ?_)
            · have c96 : ¬ (A76 0 8) = 0 := mt (i_eq0 (rb r_A76_0_8 (by decide) (by decide))).mpr c96
              have e_A80_4 : A80 0 4 = (A76 0 4) := by rw [hA80]; exact rfl
              have r_A76_0_4 : (0 : Int) ≤ (A76 0 4) ∧ (A76 0 4) ≤ 1600 := by rw [← e_A80_4]; exact hI 0 4
              have e_A80_5 : A80 0 5 = (A76 0 5) := by rw [hA80]; exact rfl
              have r_A76_0_5 : (0 : Int) ≤ (A76 0 5) ∧ (A76 0 5) ≤ 1600 := by rw [← e_A80_5]; exact hI 0 5
              exact RET _ _ _ _ _ ⟨hk5 _ (u_d_X12_barring_5 ⟨gI79.out, ⟨A80, hA80, (Or.inl ⟨c96, rfl⟩)⟩⟩), hI, fr_def hA80 (fr.st (fr.trans (fr_def hA51 (fr.st (fr.trans (fr_def hA46 (fr.st (fr.trans (fr.trans (fr.trans (fr.rf) hf12 rfl rfl) hj38 rfl rfl) hf44 rfl rfl) (by decide) rfl)) hf49 rfl rfl) (by decide) rfl)) hj75 rfl rfl) (by decide) rfl), hc81, Hd.mk (fun h0 => ⟨(CB.fr (f77.out (by omega)).2.1 (fr_def hA80 (fr.st (fr.rf (M := [32]) (N := [])) (by decide) rfl)) rfl rfl), by have g := (f77.out (by omega)).2.2; omega⟩)⟩ hP hS (dk_at dkX12_barring_6 7 rfl)
            · have c96 : (A76 0 8) = 0 := (i_eq0 (rb r_A76_0_8 (by decide) (by decide))).mp c96
              refine lv_aload_n hx hb (dk_at dkX12_barring_5 14 rfl) rfl (lv_at hl 2 rfl) ?_
              refine va_get (D := (dC, dI)) (ci := 12) (v := .ref (q 29)) (C := RX12) (T := TX12) (N := 85) hx hb hts hiX12 hown hK hP 0 wm0 rfl 40 (by decide) (hts _ (List.mem_cons_of_mem _ wlq_3_25)) (fun _ h9 => h9) rfl (dk_at dkX12_barring_5 15 rfl) ?_
              refine lv_aload_n hx hb (dk_at dkX12_barring_6 0 rfl) rfl (lv_at hl 2 rfl) ?_
              have e_A80_47 : A80 0 47 = (A 0 47) := by rw [hA80]; exact e_A76_47
              refine va_get (D := (dC, dI)) (ci := 12) (v := .int (iI (A80 0 47))) (C := RX12) (T := TX12) (N := 85) hx hb hts hiX12 hown hK hP 0 wm0 rfl 47 (by decide) (hts _ (List.mem_cons_of_mem _ wlq_1_12)) (fun _ h9 => h9) rfl (dk_at dkX12_barring_6 1 rfl) ?_
              refine tp_i (y := iI (A 0 47)) (congrArg iI e_A80_47) ?_
              refine lv_dup2_11 hx hb (dk_at dkX12_barring_6 2 rfl) rfl rfl ?_
              have a_A39_29 : A39 29 = A 29 := (hj38.1 29 (by decide) rfl).trans a_A10_29
              have a_A42_29 : A42 29 = A 29 := (hf44.1 29 (by decide) rfl).trans a_A39_29
              have a_A46_29 : A46 29 = A 29 := by rw [hA46]; exact a_A42_29
              have a_A47_29 : A47 29 = A 29 := (hf49.1 29 (by decide) rfl).trans a_A46_29
              have a_A51_29 : A51 29 = A 29 := by rw [hA51]; exact a_A47_29
              have a_A76_29 : A76 29 = A 29 := (hj75.1 29 (by decide) rfl).trans a_A51_29
              have a_A80_29 : A80 29 = A 29 := by rw [hA80]; exact a_A76_29
              refine x_iald hx hb hK hP 29 1 wm29 rfl (by omega) (by decide) (dk_at dkX12_barring_6 3 rfl) (fun z97 hz97 => ?_)
              have rz97 : (0 : Int) ≤ z97 ∧ z97 ≤ 6 := by rw [hz97]; exact hI 29 _
              have gz97 := Hd.mk hz97
              have hz97 : z97 = A 29 ((A 0 47)).toNat := hz97.trans (congrFun a_A80_29 _)
              have ez97 : z97 = z1 := hz97.trans hz1.symm
              refine lv_iconst (v := iI 1) hx hb (dk_at dkX12_barring_6 4 rfl) (by decide +kernel) ?_
              refine x_addv (v := z97 + 1) hx hb (dk_at dkX12_barring_6 5 rfl) (by omega) ?_
              refine x_iast hx hb hK hP hDD hS 29 1 wm29 rfl (by omega) (by decide) (dk_at dkX12_barring_6 6 rfl) ws29 (fun H locs hP hS => ?_)
              have hI := hI.st (j := 29) (i := ((A 0 47)).toNat) (v := z97 + 1) (show (0 : Int) ≤ z97 + 1 ∧ z97 + 1 ≤ 6 from (by omega))
              have e_A80_3 : A80 0 3 = (A76 0 3) := by rw [hA80]; exact rfl
              have e_A80_4 : A80 0 4 = (A76 0 4) := by rw [hA80]; exact rfl
              have e_A80_5 : A80 0 5 = (A76 0 5) := by rw [hA80]; exact rfl
              have e_A80_7 : A80 0 7 = (A76 0 7) := by rw [hA80]; exact rfl
              have e_A80_46 : A80 0 46 = (A76 0 46) := by rw [hA80]; exact rfl
              have e_A80_53 : A80 0 53 = (A76 0 53) := by rw [hA80]; exact rfl
              have e_A80_54 : A80 0 54 = (A76 0 54) := by rw [hA80]; exact rfl
              have e_A80_56 : A80 0 56 = (A76 0 56) := by rw [hA80]; exact rfl
              have r_A76_0_3 : (0 : Int) ≤ (A76 0 3) ∧ (A76 0 3) ≤ 3 := by rw [← e_A80_3]; exact hI 0 3
              have r_A76_0_4 : (0 : Int) ≤ (A76 0 4) ∧ (A76 0 4) ≤ 1600 := by rw [← e_A80_4]; exact hI 0 4
              have r_A76_0_5 : (0 : Int) ≤ (A76 0 5) ∧ (A76 0 5) ≤ 1600 := by rw [← e_A80_5]; exact hI 0 5
              have r_A76_0_7 : (-9223372036854775808 : Int) ≤ (A76 0 7) ∧ (A76 0 7) ≤ 9223372036854775807 := by rw [← e_A80_7]; exact hI 0 7
              have r_A76_0_53 : (0 : Int) ≤ (A76 0 53) ∧ (A76 0 53) ≤ 20 := by rw [← e_A80_53]; exact hI 0 53
              have r_A76_0_54 : (0 : Int) ≤ (A76 0 54) ∧ (A76 0 54) ≤ 8 := by rw [← e_A80_54]; exact hI 0 54
              have r_A76_0_56 : (0 : Int) ≤ (A76 0 56) ∧ (A76 0 56) ≤ 500 := by rw [← e_A80_56]; exact hI 0 56
              obtain ⟨A98, hA98⟩ : ∃ A98 : St, A98 = (stA A80 29 ((A 0 47)).toNat (z97 + 1)) := ⟨_, rfl⟩
              rw [← hA98] at hP hI
              have gd := (f77.out (by omega)).1
              have ca99 : A80 29 = A76 29 := by rw [hA80]; exact rfl
              have ca100 : A80 31 = A76 31 := by rw [hA80]; exact rfl
              have ca101 : A80 33 = A76 33 := by rw [hA80]; exact rfl
              have gd2 := DPt (A := A76) (B := A80) ca99 ca100 ca101 e_A80_46 (e_A80_47.trans e_A76_47.symm) gd
              have g29 : A98 29 = up (A80 29) (A 0 47).toNat (z97 + 1) := by rw [hA98]; rfl
              have ca103 : A10 29 = A 29 := (hf12.1 29 (by decide) rfl)
              have ca104 : A39 29 = A 29 := (hj38.1 29 (by decide) rfl).trans ca103
              have ca105 : A42 29 = A 29 := (hf44.1 29 (by decide) rfl).trans ca104
              have ca106 : A46 29 = A 29 := by rw [hA46]; exact ca105
              have ca107 : A47 29 = A 29 := (hf49.1 29 (by decide) rfl).trans ca106
              have ca108 : A51 29 = A 29 := by rw [hA51]; exact ca107
              have ca109 : A76 29 = A 29 := (hj75.1 29 (by decide) rfl).trans ca108
              have ca110 : A80 29 = A 29 := by rw [hA80]; exact ca109
              have ca111 : A10 29 = A 29 := (hf12.1 29 (by decide) rfl)
              have ca112 : A39 29 = A 29 := (hj38.1 29 (by decide) rfl).trans ca111
              have ca113 : A42 29 = A 29 := (hf44.1 29 (by decide) rfl).trans ca112
              have ca114 : A46 29 = A 29 := by rw [hA46]; exact ca113
              have ca115 : A47 29 = A 29 := (hf49.1 29 (by decide) rfl).trans ca114
              have ca116 : A51 29 = A 29 := by rw [hA51]; exact ca115
              have ca117 : A76 29 = A 29 := (hj75.1 29 (by decide) rfl).trans ca116
              have ca118 : A80 29 = A 29 := by rw [hA80]; exact ca117
              have hc102 : CI A98 := CI.inc hc81 hIc (g29.trans (by rw [e_A80_47, show z97 + 1 = A80 29 (A 0 47).toNat + 1 by rw [ca110]; omega])) (by rw [hA98]; rfl) (by rw [hA98]; rfl) (by rw [hA98]; rfl) (by rw [hA98]; rfl) (by rw [hA98]; rfl) (by rw [show 6 * A80 0 47 + A80 29 (A80 0 47).toNat = 6 * (A 0 47) + z15 by rw [ca118, e_A80_47]; omega, g32, up_same]; omega) gd2
              have e_A98_4 : A98 0 4 = (A76 0 4) := by rw [hA98]; exact e_A80_4
              have e_A98_5 : A98 0 5 = (A76 0 5) := by rw [hA98]; exact e_A80_5
              have e_A98_8 : A98 0 8 = (A76 0 8) := by rw [hA98]; exact e_A80_8
              exact RET _ _ _ _ _ ⟨hk5 _ (u_d_X12_barring_5 ⟨gI79.out, ⟨A80, hA80, (Or.inr ⟨c96, ⟨z97, gz97.out, ⟨A98, hA98, rfl⟩⟩⟩)⟩⟩), hI, fr_def hA98 (fr.st (fr_def hA80 (fr.st (fr.trans (fr_def hA51 (fr.st (fr.trans (fr_def hA46 (fr.st (fr.trans (fr.trans (fr.trans (fr.rf) hf12 rfl rfl) hj38 rfl rfl) hf44 rfl rfl) (by decide) rfl)) hf49 rfl rfl) (by decide) rfl)) hj75 rfl rfl) (by decide) rfl)) (by decide) rfl), hc102, Hd.mk (fun h0 => ⟨(CB.fr (CB.fr (f77.out (by omega)).2.1 (fr_def hA80 (fr.st (fr.rf (M := [32]) (N := [])) (by decide) rfl)) rfl rfl) (fr_def hA98 (fr.st (fr.rf (M := [29]) (N := [])) (by decide) rfl)) rfl rfl), by have g := (f77.out (by omega)).2.2; omega⟩)⟩ hP hS (dk_at dkX12_barring_6 7 rfl)
          refine lv_if_ne (tgt := 156) hx hb (dk_at dkX12_barring_5 1 rfl) (by decide) (fun c63 => ?_) (fun c63 => ?_)
          · have c63 : ¬ (A47 0 8) = 0 := mt (i_eq0 (rb r_A47_0_8 (by decide) (by decide))).mpr c63
            have e_A51_4 : A51 0 4 = (A47 0 4) := by rw [hA51]; exact rfl
            exact J156_64 _ _ _ _ (by exact Hd.mk (fun h => absurd h (by omega))) hc52 (fun uq hq => hk4 _ (u_d_X12_barring_4 ⟨gI40.out, ⟨z41, A42, ghw43, ⟨A46, hA46, ⟨A47, ghw48, ⟨A51, hA51, (Or.inl ⟨c63, hq⟩)⟩⟩⟩⟩⟩)) hI (fr.rf) hP hS (lv_sub hl [0, 1, 2] rfl)
          · have c63 : (A47 0 8) = 0 := (i_eq0 (rb r_A47_0_8 (by decide) (by decide))).mp c63
            refine lv_aload_n hx hb (dk_at dkX12_barring_5 2 rfl) rfl (lv_at hl 2 rfl) ?_
            refine lv_iconst (v := iI 1) hx hb (dk_at dkX12_barring_5 3 rfl) (by decide +kernel) ?_
            have e_A51_46 : A51 0 46 = (A 0 46) := by rw [hA51]; exact e_A47_46
            have e_A51_47 : A51 0 47 = (A 0 47) := by rw [hA51]; exact e_A47_47
            have e_A51_4 : A51 0 4 = (A47 0 4) := by rw [hA51]; exact rfl
            have e_A51_3 : A51 0 3 = (A47 0 3) := by rw [hA51]; exact rfl
            have e_A51_5 : A51 0 5 = (A47 0 5) := by rw [hA51]; exact rfl
            have e_A51_7 : A51 0 7 = (A47 0 7) := by rw [hA51]; exact rfl
            have e_A10_53 : A10 0 53 = (A 0 53) := (hf12.2 53 rfl)
            have e_A39_53 : A39 0 53 = (A 0 53) := (hj38.2 53 rfl).trans e_A10_53
            have e_A42_53 : A42 0 53 = (A 0 53) := (hf44.2 53 rfl).trans e_A39_53
            have e_A46_53 : A46 0 53 = (A 0 53) := by rw [hA46]; exact e_A42_53
            have e_A47_53 : A47 0 53 = (A 0 53) := (hf49.2 53 rfl).trans e_A46_53
            have e_A51_53 : A51 0 53 = (A 0 53) := by rw [hA51]; exact e_A47_53
            have e_A10_54 : A10 0 54 = (A 0 54) := (hf12.2 54 rfl)
            have e_A39_54 : A39 0 54 = (A 0 54) := (hj38.2 54 rfl).trans e_A10_54
            have e_A42_54 : A42 0 54 = (A 0 54) := (hf44.2 54 rfl).trans e_A39_54
            have e_A46_54 : A46 0 54 = (A 0 54) := by rw [hA46]; exact e_A42_54
            have e_A47_54 : A47 0 54 = (A 0 54) := (hf49.2 54 rfl).trans e_A46_54
            have e_A51_54 : A51 0 54 = (A 0 54) := by rw [hA51]; exact e_A47_54
            have e_A10_56 : A10 0 56 = (A 0 56) := (hf12.2 56 rfl)
            have e_A39_56 : A39 0 56 = (A 0 56) := (hj38.2 56 rfl).trans e_A10_56
            have e_A42_56 : A42 0 56 = (A 0 56) := (hf44.2 56 rfl).trans e_A39_56
            have e_A46_56 : A46 0 56 = (A 0 56) := by rw [hA46]; exact e_A42_56
            have e_A47_56 : A47 0 56 = (A 0 56) := (hf49.2 56 rfl).trans e_A46_56
            have e_A51_56 : A51 0 56 = (A 0 56) := by rw [hA51]; exact e_A47_56
            have r_A47_0_3 : (0 : Int) ≤ (A47 0 3) ∧ (A47 0 3) ≤ 3 := by rw [← e_A51_3]; exact hI 0 3
            have r_A47_0_5 : (0 : Int) ≤ (A47 0 5) ∧ (A47 0 5) ≤ 1600 := by rw [← e_A51_5]; exact hI 0 5
            have r_A47_0_7 : (-9223372036854775808 : Int) ≤ (A47 0 7) ∧ (A47 0 7) ≤ 9223372036854775807 := by rw [← e_A51_7]; exact hI 0 7
            have r_A_0_53 : (0 : Int) ≤ (A 0 53) ∧ (A 0 53) ≤ 20 := by rw [← e_A51_53]; exact hI 0 53
            have r_A_0_54 : (0 : Int) ≤ (A 0 54) ∧ (A 0 54) ≤ 8 := by rw [← e_A51_54]; exact hI 0 54
            have r_A_0_56 : (0 : Int) ≤ (A 0 56) ∧ (A 0 56) ≤ 500 := by rw [← e_A51_56]; exact hI 0 56
            have ca65 : A10 29 = A 29 := (hf12.1 29 (by decide) rfl)
            have ca66 : A39 29 = A 29 := (hj38.1 29 (by decide) rfl).trans ca65
            have ca67 : A42 29 = A 29 := (hf44.1 29 (by decide) rfl).trans ca66
            have ca68 : A46 29 = A 29 := by rw [hA46]; exact ca67
            have ca69 : A47 29 = A 29 := (hf49.1 29 (by decide) rfl).trans ca68
            have ca70 : A51 29 = A 29 := by rw [hA51]; exact ca69
            refine x_callv (As := [.int (iI 1)]) (rest := []) ⟨hx, hb, hml, hown, hts⟩ (mb_X12_reads l dC dI cB cI cJ cZ cQ q _ 1 hI ⟨by decide, by decide⟩ (by exact (CB.fr hc50 (fr_def hA51 (fr.st (fr.rf (M := [31]) (N := [])) (by decide) rfl)) rfl rfl)) (by rw [show 6 * A51 0 47 + A51 29 (A51 0 47).toNat = 6 * (A 0 47) + z15 by rw [ca70, e_A51_47]; omega, g31, up_same]; omega) hc52) (cwV 1 hts (goodV wlq_3_29 wlq_3_30 wlq_3_31 wlq_0_8 wlq_2_13) rfl rfl rfl (by decide +kernel) ⟨Nat.le_of_ble_eq_true rfl, Nat.le_of_ble_eq_true rfl⟩) hK hDD hA0 hP hS 0 12 wm0 rfl rfl hl.1 (Nat.le_of_ble_eq_true rfl) (dk_at dkX12_barring_5 4 rfl) (fun A71 H locs hw72 hP hS => ?_)
            have ghw72 : q_X12_reads 1 A51 A71 := hw72
            obtain ⟨_, hI, hf73, hw72⟩ := hw72
            obtain ⟨hc74, hw72⟩ := hw72
            have r_A71_0_4 : (0 : Int) ≤ (A71 0 4) ∧ (A71 0 4) ≤ 1600 := hI 0 4
            have r_A71_0_8 : (0 : Int) ≤ (A71 0 8) ∧ (A71 0 8) ≤ 5 := hI 0 8
            have r_A71_0_46 : (0 : Int) ≤ (A71 0 46) ∧ (A71 0 46) ≤ 1600 := hI 0 46
            have e_A71_47 : A71 0 47 = (A 0 47) := (hf73.2 47 rfl).trans e_A51_47
            exact J156_64 _ _ _ _ (by exact Hd.mk (fun h0 => by have g := hw72.out (by omega); exact ⟨g.1, g.2.1, by have := g.2.2; omega⟩)) hc74 (fun uq hq => hk4 _ (u_d_X12_barring_4 ⟨gI40.out, ⟨z41, A42, ghw43, ⟨A46, hA46, ⟨A47, ghw48, ⟨A51, hA51, (Or.inr ⟨c63, ⟨A71, ghw72, hq⟩⟩)⟩⟩⟩⟩⟩)) hI (fr.trans (fr.rf) hf73 rfl rfl) hP hS (lv_sub hl [0, 1, 2] rfl)
        refine lv_icmp_eq (tgt := 116) hx hb (dk_at dkX12_barring_2 15 rfl) (by decide) (fun c31 => ?_) (fun c31 => ?_)
        · have c31 : z28 = (-1) := (i_eq (rb f30 (by decide) (by decide)) ⟨by decide, by decide⟩).mp c31
          exact J116_32 _ _ _ _ (fun uq hq => hk3 _ (u_d_X12_barring_3 ⟨f30, (Or.inl ⟨c31, hq⟩)⟩)) hI (fr.rf) hP hS (lv_sub hl [0, 1, 2] rfl)
        · have c31 : ¬ z28 = (-1) := mt (i_eq (rb f30 (by decide) (by decide)) ⟨by decide, by decide⟩).mpr c31
          refine lv_aload_n hx hb (dk_at dkX12_barring_3 0 rfl) rfl (lv_at hl 2 rfl) ?_
          refine va_get (D := (dC, dI)) (ci := 12) (v := .ref (q 8)) (C := RX12) (T := TX12) (N := 85) hx hb hts hiX12 hown hK hP 0 wm0 rfl 19 (by decide) (hts _ (List.mem_cons_of_mem _ wlq_2_41)) (fun _ h9 => h9) rfl (dk_at dkX12_barring_3 1 rfl) ?_
          refine lv_bipush (v := iI 10) hx hb (dk_at dkX12_barring_3 2 rfl) (by decide +kernel) ?_
          refine lv_aload_n hx hb (dk_at dkX12_barring_3 3 rfl) rfl (lv_at hl 2 rfl) ?_
          refine va_get (D := (dC, dI)) (ci := 12) (v := .int (iI (A10 0 47))) (C := RX12) (T := TX12) (N := 85) hx hb hts hiX12 hown hK hP 0 wm0 rfl 47 (by decide) (hts _ (List.mem_cons_of_mem _ wlq_1_12)) (fun _ h9 => h9) rfl (dk_at dkX12_barring_3 4 rfl) ?_
          refine tp_i (y := iI (A 0 47)) (congrArg iI e_A10_47) ?_
          refine x_mulv (v := 10 * (A 0 47)) hx hb (dk_at dkX12_barring_3 5 rfl) (by omega) ?_
          refine lv_iload_n hx hb (dk_at dkX12_barring_3 6 rfl) rfl (lv_at hl 0 rfl) ?_
          refine x_addv (v := 10 * (A 0 47) + z28) hx hb (dk_at dkX12_barring_3 7 rfl) (by omega) ?_
          have a_A10_8 : A10 8 = A 8 := (hf12.1 8 (by decide) rfl)
          refine x_zald hx hb hK hP 8 3 wm8 rfl (by omega) (by decide) (dk_at dkX12_barring_3 8 rfl) (fun z33 hz33 => ?_)
          have rz33 : (0 : Int) ≤ z33 ∧ z33 ≤ 1 := by rw [hz33]; exact hI 8 _
          have gz33 := Hd.mk hz33
          have hz33 : z33 = A 8 (10 * (A 0 47) + z28).toNat := hz33.trans (congrFun a_A10_8 _)
          refine lv_if_eq (tgt := 116) hx hb (dk_at dkX12_barring_3 9 rfl) (by decide) (fun c34 => ?_) (fun c34 => ?_)
          · have c34 : z33 = 0 := (i_eq0 (rb rz33 (by decide) (by decide))).mp c34
            exact J116_32 _ _ _ _ (fun uq hq => hk3 _ (u_d_X12_barring_3 ⟨f30, (Or.inr ⟨c31, ⟨z33, gz33.out, (Or.inl ⟨c34, hq⟩)⟩⟩)⟩)) hI (fr.rf) hP hS (lv_sub hl [0, 1, 2] rfl)
          · have c34 : ¬ z33 = 0 := mt (i_eq0 (rb rz33 (by decide) (by decide))).mpr c34
            refine lv_aload_n hx hb (dk_at dkX12_barring_3 10 rfl) rfl (lv_at hl 2 rfl) ?_
            refine lv_iconst (v := iI 3) hx hb (dk_at dkX12_barring_3 11 rfl) (by decide +kernel) ?_
            refine lv_aload_n hx hb (dk_at dkX12_barring_3 12 rfl) rfl (lv_at hl 2 rfl) ?_
            refine va_get (D := (dC, dI)) (ci := 12) (v := .int (iI (A10 0 4))) (C := RX12) (T := TX12) (N := 85) hx hb hts hiX12 hown hK hP 0 wm0 rfl 4 (by decide) (hts _ (List.mem_cons_of_mem _ wlq_0_23)) (fun _ h9 => h9) rfl (dk_at dkX12_barring_3 13 rfl) ?_
            refine x_callv (As := [.int (iI 3), .int (iI (A10 0 4))]) (rest := []) ⟨hx, hb, hml, hown, hts⟩ (mc_X12_blame l dC dI cB cI cJ cZ cQ q _ 3 (A10 0 4) hI ⟨by decide, by decide⟩ r_A10_0_4) (cwV 2 hts (goodV wlq_0_31 wlq_0_32 wlq_0_33 wlq_0_8 wlq_0_15) rfl rfl rfl (by decide +kernel) ⟨Nat.le_of_ble_eq_true rfl, Nat.le_of_ble_eq_true rfl⟩) hK hDD hA0 hP hS 0 12 wm0 rfl rfl hl.1 (Nat.le_of_ble_eq_true rfl) (dk_at dkX12_barring_3 14 rfl) (fun A35 H locs hw36 hP hS => ?_)
            have ghw36 : q_X12_blame 3 (A10 0 4) A10 A35 := hw36
            obtain ⟨_, hI, hf37, hw36⟩ := hw36
            have r_A35_0_8 : (0 : Int) ≤ (A35 0 8) ∧ (A35 0 8) ≤ 5 := hI 0 8
            exact J116_32 _ _ _ _ (fun uq hq => hk3 _ (u_d_X12_barring_3 ⟨f30, (Or.inr ⟨c31, ⟨z33, gz33.out, (Or.inr ⟨c34, ⟨A35, ghw36, hq⟩⟩)⟩⟩)⟩)) hI (fr.trans (fr.rf) hf37 rfl rfl) hP hS (lv_sub hl [0, 1, 2] rfl)
      have J83_17 : ∀ (H : Heap) (locs : List Loc) (ls : Array Slot), (∀ (u : St), (d_X12_barring_2 z15 A A10 u) → r_X12_barring A u) → va_P (dC, dI) vwCl (WM cI cJ cZ q A10) H → va_S AS s.heap H locs → lv_has ls 3 [(1, .int (iI (6 * (A 0 47) + z15))), (0, .ref (q 0))] → W p l e (headSpec ws_mb_X12_barring ({ frames := 5, cells := 0, slots := 0, locals := 113 } : Room)).room s m [.ref (q 0)].toArray below meth c H locs 0 0 Q (F0 m 83 ls []) := by
        intro H locs ls hk2 hP hS hl
        refine lv_iconst (v := iI (-1)) hx hb (dk_at dkX12_barring_2 11 rfl) (by decide +kernel) ?_
        exact J84_18 (-1) _ _ _ (by omega) (fun uq hq => hk2 _ (u_d_X12_barring_2 hq)) hP hS (lv_sub hl [0, 1] rfl)
      refine lv_if_ne (tgt := 83) hx hb (dk_at dkX12_barring_1 11 rfl) (by decide) (fun c16 => ?_) (fun c16 => ?_)
      · have c16 : ¬ (A10 0 8) = 0 := mt (i_eq0 (rb r_A10_0_8 (by decide) (by decide))).mpr c16
        exact J83_17 _ _ _ (fun uq hq => hk1 _ (u_d_X12_barring_1 ⟨f6, ⟨z9, A10, ghw11, (Or.inl ⟨c14, ⟨z15, gz15.out, (Or.inl ⟨c16, hq⟩)⟩⟩)⟩⟩)) hP hS (lv_sub hl [0, 1] rfl)
      · have c16 : (A10 0 8) = 0 := (i_eq0 (rb r_A10_0_8 (by decide) (by decide))).mp c16
        refine lv_aload_n hx hb (dk_at dkX12_barring_1 12 rfl) rfl (lv_at hl 1 rfl) ?_
        refine va_get (D := (dC, dI)) (ci := 12) (v := .int (iI (A10 0 3))) (C := RX12) (T := TX12) (N := 85) hx hb hts hiX12 hown hK hP 0 wm0 rfl 3 (by decide) (hts _ (List.mem_cons_of_mem _ wlq_0_24)) (fun _ h9 => h9) rfl (dk_at dkX12_barring_1 13 rfl) ?_
        have r_A10_0_3 : (0 : Int) ≤ (A10 0 3) ∧ (A10 0 3) ≤ 3 := hI 0 3
        refine lv_iconst (v := iI 1) hx hb (dk_at dkX12_barring_1 14 rfl) (by decide +kernel) ?_
        refine lv_icmp_ne (tgt := 83) hx hb (dk_at dkX12_barring_1 15 rfl) (by decide) (fun c19 => ?_) (fun c19 => ?_)
        · have c19 : ¬ (A10 0 3) = 1 := mt (i_eq (rb r_A10_0_3 (by decide) (by decide)) ⟨by decide, by decide⟩).mpr c19
          exact J83_17 _ _ _ (fun uq hq => hk1 _ (u_d_X12_barring_1 ⟨f6, ⟨z9, A10, ghw11, (Or.inl ⟨c14, ⟨z15, gz15.out, (Or.inr ⟨c16, (Or.inl ⟨c19, hq⟩)⟩)⟩⟩)⟩⟩)) hP hS (lv_sub hl [0, 1] rfl)
        · have c19 : (A10 0 3) = 1 := (i_eq (rb r_A10_0_3 (by decide) (by decide)) ⟨by decide, by decide⟩).mp c19
          refine lv_aload_n hx hb (dk_at dkX12_barring_2 0 rfl) rfl (lv_at hl 1 rfl) ?_
          refine lv_aload_n hx hb (dk_at dkX12_barring_2 1 rfl) rfl (lv_at hl 1 rfl) ?_
          refine va_get (D := (dC, dI)) (ci := 12) (v := .long (jI (A10 0 7))) (C := RX12) (T := TX12) (N := 85) hx hb hts hiX12 hown hK hP 0 wm0 rfl 7 (by decide) (hts _ (List.mem_cons_of_mem _ wlq_0_26)) (fun _ h9 => h9) rfl (dk_at dkX12_barring_2 2 rfl) ?_
          have r_A10_0_7 : (-9223372036854775808 : Int) ≤ (A10 0 7) ∧ (A10 0 7) ≤ 9223372036854775807 := hI 0 7
          refine x_calli (As := [.long (jI (A10 0 7))]) (rest := []) ⟨hx, hb, hml, hown, hts⟩ (mb_X12_isOwn l dC dI cB cI cJ cZ cQ q _ (A10 0 7) hI r_A10_0_7) (cwV 1 hts (goodV wlq_2_23 wlq_2_24 wlq_2_25 wlq_0_8 wlq_0_43) rfl rfl rfl (by decide +kernel) ⟨Nat.le_of_ble_eq_true rfl, Nat.le_of_ble_eq_true rfl⟩) hK hDD hA0 hP hS 0 12 wm0 rfl rfl hl.1 (Nat.le_of_ble_eq_true rfl) (dk_at dkX12_barring_2 3 rfl) (fun z20 A21 H locs hw22 hP hS => ?_)
          obtain ⟨rfl, hw22⟩ := hw22
          have ghw22 : q_X12_isOwn (A10 0 7) A10 z20 := hw22
          have hw22 := hw22.2
          have rz20 : 0 ≤ z20 ∧ z20 ≤ 1 := hw22.1
          refine lv_if_ne (tgt := 83) hx hb (dk_at dkX12_barring_2 4 rfl) (by decide) (fun c23 => ?_) (fun c23 => ?_)
          · have c23 : ¬ z20 = 0 := mt (i_eq0 (rb rz20 (by decide) (by decide))).mpr c23
            exact J83_17 _ _ _ (fun uq hq => hk1 _ (u_d_X12_barring_1 ⟨f6, ⟨z9, A10, ghw11, (Or.inl ⟨c14, ⟨z15, gz15.out, (Or.inr ⟨c16, (Or.inr ⟨c19, ⟨z20, ghw22, (Or.inl ⟨c23, hq⟩)⟩⟩)⟩)⟩⟩)⟩⟩)) hP hS (lv_sub hl [0, 1] rfl)
          · have c23 : z20 = 0 := (i_eq0 (rb rz20 (by decide) (by decide))).mp c23
            refine lv_aload_n hx hb (dk_at dkX12_barring_2 5 rfl) rfl (lv_at hl 1 rfl) ?_
            refine lv_iconst (v := iI 1) hx hb (dk_at dkX12_barring_2 6 rfl) (by decide +kernel) ?_
            refine lv_aload_n hx hb (dk_at dkX12_barring_2 7 rfl) rfl (lv_at hl 1 rfl) ?_
            refine va_get (D := (dC, dI)) (ci := 12) (v := .long (jI (A10 0 7))) (C := RX12) (T := TX12) (N := 85) hx hb hts hiX12 hown hK hP 0 wm0 rfl 7 (by decide) (hts _ (List.mem_cons_of_mem _ wlq_0_26)) (fun _ h9 => h9) rfl (dk_at dkX12_barring_2 8 rfl) ?_
            refine x_calli (As := [.int (iI 1), .long (jI (A10 0 7))]) (rest := []) ⟨hx, hb, hml, hown, hts⟩ (mb_X12_named_1 l dC dI cB cI cJ cZ cQ q _ 1 (A10 0 7) hI ⟨by decide, by decide⟩ r_A10_0_7) (cwV 2 hts (goodV wlq_2_26 wlq_2_27 wlq_2_28 wlq_0_8 wlq_1_10) rfl rfl rfl (by decide +kernel) ⟨Nat.le_of_ble_eq_true rfl, Nat.le_of_ble_eq_true rfl⟩) hK hDD hA0 hP hS 0 12 wm0 rfl rfl hl.1 (Nat.le_of_ble_eq_true rfl) (dk_at dkX12_barring_2 9 rfl) (fun z24 A25 H locs hw26 hP hS => ?_)
            obtain ⟨rfl, hw26⟩ := hw26
            have ghw26 : q_X12_named_1 1 (A10 0 7) A10 z24 := hw26
            have hw26 := hw26.2
            have a_A10_5 : A10 5 = A 5 := (hf12.1 5 (by decide) rfl)
            have a_A10_4 : A10 4 = A 4 := (hf12.1 4 (by decide) rfl)
            rw [a_A10_5, a_A10_4, e_A10_47] at hw26
            refine lv_goto (tgt := 84) hx hb (dk_at dkX12_barring_2 10 rfl) (by decide) ?_
            exact J84_18 z24 _ _ _ (by omega) (fun uq hq => hk1 _ (u_d_X12_barring_1 ⟨f6, ⟨z9, A10, ghw11, (Or.inl ⟨c14, ⟨z15, gz15.out, (Or.inr ⟨c16, (Or.inr ⟨c19, ⟨z20, ghw22, (Or.inr ⟨c23, ⟨z24, ghw26, hq⟩⟩)⟩⟩)⟩)⟩⟩)⟩⟩)) hP hS (lv_sub hl [0, 1] rfl)
    · have c14 : z9 = 0 := (i_eq0 (rb rz9 (by decide) (by decide))).mp c14
      have r_A10_0_5 : (0 : Int) ≤ (A10 0 5) ∧ (A10 0 5) ≤ 1600 := hI 0 5
      exact RET _ _ _ _ _ ⟨hk1 _ (u_d_X12_barring_1 ⟨f6, ⟨z9, A10, ghw11, (Or.inr ⟨c14, rfl⟩)⟩⟩), hI, fr.trans (fr.rf) hf12 rfl rfl, (CI.fr hcCI hf12 rfl rfl), Hd.mk (fun h => absurd h (by omega))⟩ hP hS (dk_at dkX12_barring_0 13 rfl)
  refine lv_icmp_ne (tgt := 19) hx hb (dk_at dkX12_barring_0 7 rfl) (by decide) (fun c2 => ?_) (fun c2 => ?_)
  · have c2 : ¬ z1 = 6 := mt (i_eq (rb rz1 (by decide) (by decide)) ⟨by decide, by decide⟩).mpr c2
    refine lv_iconst (v := iI 0) hx hb (dk_at dkX12_barring_0 10 rfl) (by decide +kernel) ?_
    exact J20_3 0 _ _ _ (by omega) (by omega) (by exact Hd.mk (by  omega)) (fun uq hq => (u_r_X12_barring ⟨z1, gz1.out, (Or.inl ⟨c2, hq⟩)⟩)) hP hS (lv_sub hl [0] rfl)
  · have c2 : z1 = 6 := (i_eq (rb rz1 (by decide) (by decide)) ⟨by decide, by decide⟩).mp c2
    refine lv_iconst (v := iI 1) hx hb (dk_at dkX12_barring_0 8 rfl) (by decide +kernel) ?_
    refine lv_goto (tgt := 20) hx hb (dk_at dkX12_barring_0 9 rfl) (by decide) ?_
    exact J20_3 1 _ _ _ (by omega) (by omega) (by exact Hd.mk (by  omega)) (fun uq hq => (u_r_X12_barring ⟨z1, gz1.out, (Or.inr ⟨c2, hq⟩)⟩)) hP hS (lv_sub hl [0] rfl)
theorem dkX12_statement_0 : dkq cX12_statement [(0, .aload_n 0, 1), (1, .ldc2_w 296, 3), (4, .invokevirtual 368, 3), (7, .ifCond .eq 10, 3), (10, .aload_n 0, 1), (11, .invokevirtual 427, 3), (14, .goto 94, 3), (17, .aload_n 0, 1), (18, .ldc2_w 298, 3), (21, .invokevirtual 368, 3), (24, .ifCond .eq 11, 3), (27, .aload_n 0, 1), (28, .iconst 0, 1), (29, .invokevirtual 430, 3), (32, .goto 76, 3), (35, .aload_n 0, 1)] = true := by decide +kernel
theorem dkX12_statement_1 : dkq cX12_statement [(36, .ldc2_w 300, 3), (39, .invokevirtual 368, 3), (42, .ifCond .eq 11, 3), (45, .aload_n 0, 1), (46, .iconst 1, 1), (47, .invokevirtual 430, 3), (50, .goto 58, 3), (53, .aload_n 0, 1), (54, .ldc2_w 304, 3), (57, .invokevirtual 368, 3), (60, .ifCond .eq 10, 3), (63, .aload_n 0, 1), (64, .invokevirtual 433, 3), (67, .goto 41, 3), (70, .aload_n 0, 1), (71, .ldc2_w 308, 3)] = true := by decide +kernel
theorem dkX12_statement_2 : dkq cX12_statement [(74, .invokevirtual 368, 3), (77, .ifCond .eq 10, 3), (80, .aload_n 0, 1), (81, .invokevirtual 436, 3), (84, .goto 24, 3), (87, .aload_n 0, 1), (88, .ldc2_w 310, 3), (91, .invokevirtual 368, 3), (94, .ifCond .eq 10, 3), (97, .aload_n 0, 1), (98, .invokevirtual 439, 3), (101, .goto 7, 3), (104, .aload_n 0, 1), (105, .invokevirtual 442, 3), (108, .aload_n 0, 1), (109, .getfield 36, 3)] = true := by decide +kernel
theorem dkX12_statement_3 : dkq cX12_statement [(112, .ifCond .ne 9, 3), (115, .aload_n 0, 1), (116, .bipush 59, 2), (118, .invokevirtual 445, 3), (121, .return_, 1)] = true := by decide +kernel
theorem dkX12_others_0 : dkq cX12_others [(0, .aload_n 0, 1), (1, .ldc2_w 312, 3), (4, .invokevirtual 368, 3), (7, .ifCond .eq 10, 3), (10, .aload_n 0, 1), (11, .invokevirtual 447, 3), (14, .goto 97, 3), (17, .aload_n 0, 1), (18, .ldc2_w 316, 3), (21, .invokevirtual 368, 3), (24, .ifCond .eq 10, 3), (27, .aload_n 0, 1), (28, .invokevirtual 450, 3), (31, .goto 80, 3), (34, .aload_n 0, 1), (35, .ldc2_w 318, 3)] = true := by decide +kernel
theorem dkX12_others_1 : dkq cX12_others [(38, .invokevirtual 368, 3), (41, .ifCond .eq 10, 3), (44, .aload_n 0, 1), (45, .invokevirtual 453, 3), (48, .goto 63, 3), (51, .aload_n 0, 1), (52, .ldc2_w 320, 3), (55, .invokevirtual 368, 3), (58, .ifCond .eq 10, 3), (61, .aload_n 0, 1), (62, .invokevirtual 456, 3), (65, .goto 46, 3), (68, .aload_n 0, 1), (69, .ldc2_w 322, 3), (72, .invokevirtual 368, 3), (75, .ifCond .eq 10, 3)] = true := by decide +kernel
theorem dkX12_others_2 : dkq cX12_others [(78, .aload_n 0, 1), (79, .invokevirtual 459, 3), (82, .goto 29, 3), (85, .aload_n 0, 1), (86, .ldc2_w 324, 3), (89, .invokevirtual 368, 3), (92, .ifCond .eq 10, 3), (95, .aload_n 0, 1), (96, .invokevirtual 462, 3), (99, .goto 12, 3), (102, .aload_n 0, 1), (103, .iconst 1, 1), (104, .aload_n 0, 1), (105, .getfield 23, 3), (108, .invokevirtual 286, 3), (111, .return_, 1)] = true := by decide +kernel
abbrev tr_r_X12_others (A : St) (u : St) : Prop := (∃ z1 : Int, q_X12_isWord 1936225652 A z1 ∧ (((z1 = 0) ∧ (∃ z5 : Int, q_X12_isWord 1819243380 A z5 ∧ (((z5 = 0) ∧ (∃ z9 : Int, q_X12_isWord 499967946343 A z9 ∧ (((z9 = 0) ∧ (∃ z13 : Int, q_X12_isWord 512735736947 A z13 ∧ (((z13 = 0) ∧ (∃ z17 : Int, q_X12_isWord 1836413812 A z17 ∧ (((z17 = 0) ∧ (∃ z21 : Int, q_X12_isWord 6447474 A z21 ∧ (((z21 = 0) ∧ (∃ A25 : St, q_X12_blame 1 (A 0 4) A A25 ∧ (u = A25))) ∨ ((¬ z21 = 0) ∧ (∃ A28 : St, q_X12_barring A A28 ∧ (u = A28)))))) ∨ ((¬ z17 = 0) ∧ (∃ A32 : St, q_X12_mustBe A A32 ∧ (u = A32)))))) ∨ ((¬ z13 = 0) ∧ (∃ A36 : St, q_X12_wanting A A36 ∧ (u = A36)))))) ∨ ((¬ z9 = 0) ∧ (∃ A41 : St, q_X12_thing A A41 ∧ (u = A41)))))) ∨ ((¬ z5 = 0) ∧ (∃ A45 : St, q_X12_losing A A45 ∧ (u = A45)))))) ∨ ((¬ z1 = 0) ∧ (∃ A49 : St, q_X12_shutting A A49 ∧ (u = A49)))))
def r_X12_others (A : St) (u : St) : Prop := tr_r_X12_others A u
theorem u_r_X12_others {A : St} {u : St} (h : tr_r_X12_others A u) : r_X12_others A u := h
def q_X12_others (A : St) (u : St) : Prop := r_X12_others A u ∧ IM u ∧ fr [10, 14, 15, 19, 20, 21, 22, 23, 24, 25, 26, 27, 28, 29, 30, 31, 32, 33, 34, 35, 36, 37, 38, 39, 40] [3, 4, 5, 6, 7, 8, 9, 46, 53, 54, 56, 57] A u ∧ CI u ∧ WI u ∧ (Hd (u 0 8 = 0 → CB u ∧ A 0 5 ≤ u 0 4))
def ws_mb_X12_others : List Cond := .code yX12_others cX12_others 1 none :: WX
set_option maxHeartbeats 4000000 in
set_option maxRecDepth 100000 in
theorem mb_X12_others (l : Launch) (dC : Nat → ClassId) (dI : Nat → Nat → Nat) (cB cI cJ cZ cQ : ClassId) (q : Nat → Nat) (A : St) (hI : IM A) (hp0 : CB A) (hcCI : CI A) (hcWI : WI A) : XMv l yX12_others ws_mb_X12_others ({ frames := 6, cells := 0, slots := 0, locals := 135 } : Room) (dC, dI) (tyA cB cI cJ cZ cQ) (WM cI cJ cZ q) A [.ref (q 0)] (fun u => r_X12_others A u ∧ IM u ∧ fr [10, 14, 15, 19, 20, 21, 22, 23, 24, 25, 26, 27, 28, 29, 30, 31, 32, 33, 34, 35, 36, 37, 38, 39, 40] [3, 4, 5, 6, 7, 8, 9, 46, 53, 54, 56, 57] A u ∧ CI u ∧ WI u ∧ (Hd (u 0 8 = 0 → CB u ∧ A 0 5 ≤ u 0 4))) := by
  refine x_metv (cc := cX12_others) (maxL := 1) WM_adr (by decide +kernel) rfl (Nat.le_of_ble_eq_true rfl) (fun p e s m below meth c Q AS ls hx hb hml hown hts hK hDD hA0 hP hS hl RET => ?_)
  have hown : s.vm.findClass RX12 = some m.cls := hown
  have hl : lv_has ls 1 [(0, .ref (q 0))] := hl
  have hiX12 : ∀ w ∈ u_ws RX12 TX12 85, w ∈ ws_mb_X12_others := fun w h => List.mem_cons_of_mem _ (wx_lay w h)
  obtain ⟨H, hHe⟩ : ∃ H : Heap, H = s.heap := ⟨_, rfl⟩
  rw [← hHe] at hP
  have hS : va_S AS s.heap H [] := by rw [hHe]; exact hS
  suffices hgo : ∀ locs : List Loc, va_S AS s.heap H locs → W p l e (headSpec ws_mb_X12_others ({ frames := 6, cells := 0, slots := 0, locals := 135 } : Room)).room s m [.ref (q 0)].toArray below meth c H locs 0 0 Q (F0 m 0 ls []) by
    have := hgo [] hS
    rw [hHe] at this
    exact this
  clear hS hHe
  intro locs hS
  have hle := CB.le hp0
  refine lv_aload_n hx hb (dk_at dkX12_others_0 0 rfl) rfl (lv_at hl 0 rfl) ?_
  refine lv_ldc2 (v := 1936225652) hx hb hown (hts _ (List.mem_cons_of_mem _ wlq_0_52)) (dk_at dkX12_others_0 1 rfl) ?_
  refine tp_l (y := jI 1936225652) (by decide +kernel) ?_
  have r_A_0_3 : (0 : Int) ≤ (A 0 3) ∧ (A 0 3) ≤ 3 := hI 0 3
  have r_A_0_7 : (-9223372036854775808 : Int) ≤ (A 0 7) ∧ (A 0 7) ≤ 9223372036854775807 := hI 0 7
  refine x_calli (As := [.long (jI 1936225652)]) (rest := []) ⟨hx, hb, hml, hown, hts⟩ (mb_X12_isWord l dC dI cB cI cJ cZ cQ q _ 1936225652 hI ⟨by decide, by decide⟩) (cwV 1 hts (goodV wlq_1_59 wlq_2_0 wlq_2_1 wlq_0_8 wlq_0_35) rfl rfl rfl (by decide +kernel) ⟨Nat.le_of_ble_eq_true rfl, Nat.le_of_ble_eq_true rfl⟩) hK hDD hA0 hP hS 0 12 wm0 rfl rfl hl.1 (Nat.le_of_ble_eq_true rfl) (dk_at dkX12_others_0 2 rfl) (fun z1 A2 H locs hw3 hP hS => ?_)
  obtain ⟨rfl, hw3⟩ := hw3
  have ghw3 : q_X12_isWord 1936225652 A z1 := hw3
  have hw3 := hw3.2
  have rz1 : 0 ≤ z1 ∧ z1 ≤ 1 := hw3.1
  replace hw3 := Hd.mk hw3.2
  refine lv_if_eq (tgt := 17) hx hb (dk_at dkX12_others_0 3 rfl) (by decide) (fun c4 => ?_) (fun c4 => ?_)
  · have c4 : z1 = 0 := (i_eq0 (rb rz1 (by decide) (by decide))).mp c4
    refine lv_aload_n hx hb (dk_at dkX12_others_0 7 rfl) rfl (lv_at hl 0 rfl) ?_
    refine lv_ldc2 (v := 1819243380) hx hb hown (hts _ (List.mem_cons_of_mem _ wlq_0_54)) (dk_at dkX12_others_0 8 rfl) ?_
    refine tp_l (y := jI 1819243380) (by decide +kernel) ?_
    refine x_calli (As := [.long (jI 1819243380)]) (rest := []) ⟨hx, hb, hml, hown, hts⟩ (mb_X12_isWord l dC dI cB cI cJ cZ cQ q _ 1819243380 hI ⟨by decide, by decide⟩) (cwV 1 hts (goodV wlq_1_59 wlq_2_0 wlq_2_1 wlq_0_8 wlq_0_35) rfl rfl rfl (by decide +kernel) ⟨Nat.le_of_ble_eq_true rfl, Nat.le_of_ble_eq_true rfl⟩) hK hDD hA0 hP hS 0 12 wm0 rfl rfl hl.1 (Nat.le_of_ble_eq_true rfl) (dk_at dkX12_others_0 9 rfl) (fun z5 A6 H locs hw7 hP hS => ?_)
    obtain ⟨rfl, hw7⟩ := hw7
    have ghw7 : q_X12_isWord 1819243380 A z5 := hw7
    have hw7 := hw7.2
    have rz5 : 0 ≤ z5 ∧ z5 ≤ 1 := hw7.1
    replace hw7 := Hd.mk hw7.2
    refine lv_if_eq (tgt := 34) hx hb (dk_at dkX12_others_0 10 rfl) (by decide) (fun c8 => ?_) (fun c8 => ?_)
    · have c8 : z5 = 0 := (i_eq0 (rb rz5 (by decide) (by decide))).mp c8
      refine lv_aload_n hx hb (dk_at dkX12_others_0 14 rfl) rfl (lv_at hl 0 rfl) ?_
      refine lv_ldc2 (v := 499967946343) hx hb hown (hts _ (List.mem_cons_of_mem _ wlq_0_55)) (dk_at dkX12_others_0 15 rfl) ?_
      refine tp_l (y := jI 499967946343) (by decide +kernel) ?_
      refine x_calli (As := [.long (jI 499967946343)]) (rest := []) ⟨hx, hb, hml, hown, hts⟩ (mb_X12_isWord l dC dI cB cI cJ cZ cQ q _ 499967946343 hI ⟨by decide, by decide⟩) (cwV 1 hts (goodV wlq_1_59 wlq_2_0 wlq_2_1 wlq_0_8 wlq_0_35) rfl rfl rfl (by decide +kernel) ⟨Nat.le_of_ble_eq_true rfl, Nat.le_of_ble_eq_true rfl⟩) hK hDD hA0 hP hS 0 12 wm0 rfl rfl hl.1 (Nat.le_of_ble_eq_true rfl) (dk_at dkX12_others_1 0 rfl) (fun z9 A10 H locs hw11 hP hS => ?_)
      obtain ⟨rfl, hw11⟩ := hw11
      have ghw11 : q_X12_isWord 499967946343 A z9 := hw11
      have hw11 := hw11.2
      have rz9 : 0 ≤ z9 ∧ z9 ≤ 1 := hw11.1
      replace hw11 := Hd.mk hw11.2
      refine lv_if_eq (tgt := 51) hx hb (dk_at dkX12_others_1 1 rfl) (by decide) (fun c12 => ?_) (fun c12 => ?_)
      · have c12 : z9 = 0 := (i_eq0 (rb rz9 (by decide) (by decide))).mp c12
        refine lv_aload_n hx hb (dk_at dkX12_others_1 5 rfl) rfl (lv_at hl 0 rfl) ?_
        refine lv_ldc2 (v := 512735736947) hx hb hown (hts _ (List.mem_cons_of_mem _ wlq_0_56)) (dk_at dkX12_others_1 6 rfl) ?_
        refine tp_l (y := jI 512735736947) (by decide +kernel) ?_
        refine x_calli (As := [.long (jI 512735736947)]) (rest := []) ⟨hx, hb, hml, hown, hts⟩ (mb_X12_isWord l dC dI cB cI cJ cZ cQ q _ 512735736947 hI ⟨by decide, by decide⟩) (cwV 1 hts (goodV wlq_1_59 wlq_2_0 wlq_2_1 wlq_0_8 wlq_0_35) rfl rfl rfl (by decide +kernel) ⟨Nat.le_of_ble_eq_true rfl, Nat.le_of_ble_eq_true rfl⟩) hK hDD hA0 hP hS 0 12 wm0 rfl rfl hl.1 (Nat.le_of_ble_eq_true rfl) (dk_at dkX12_others_1 7 rfl) (fun z13 A14 H locs hw15 hP hS => ?_)
        obtain ⟨rfl, hw15⟩ := hw15
        have ghw15 : q_X12_isWord 512735736947 A z13 := hw15
        have hw15 := hw15.2
        have rz13 : 0 ≤ z13 ∧ z13 ≤ 1 := hw15.1
        replace hw15 := Hd.mk hw15.2
        refine lv_if_eq (tgt := 68) hx hb (dk_at dkX12_others_1 8 rfl) (by decide) (fun c16 => ?_) (fun c16 => ?_)
        · have c16 : z13 = 0 := (i_eq0 (rb rz13 (by decide) (by decide))).mp c16
          refine lv_aload_n hx hb (dk_at dkX12_others_1 12 rfl) rfl (lv_at hl 0 rfl) ?_
          refine lv_ldc2 (v := 1836413812) hx hb hown (hts _ (List.mem_cons_of_mem _ wlq_0_57)) (dk_at dkX12_others_1 13 rfl) ?_
          refine tp_l (y := jI 1836413812) (by decide +kernel) ?_
          refine x_calli (As := [.long (jI 1836413812)]) (rest := []) ⟨hx, hb, hml, hown, hts⟩ (mb_X12_isWord l dC dI cB cI cJ cZ cQ q _ 1836413812 hI ⟨by decide, by decide⟩) (cwV 1 hts (goodV wlq_1_59 wlq_2_0 wlq_2_1 wlq_0_8 wlq_0_35) rfl rfl rfl (by decide +kernel) ⟨Nat.le_of_ble_eq_true rfl, Nat.le_of_ble_eq_true rfl⟩) hK hDD hA0 hP hS 0 12 wm0 rfl rfl hl.1 (Nat.le_of_ble_eq_true rfl) (dk_at dkX12_others_1 14 rfl) (fun z17 A18 H locs hw19 hP hS => ?_)
          obtain ⟨rfl, hw19⟩ := hw19
          have ghw19 : q_X12_isWord 1836413812 A z17 := hw19
          have hw19 := hw19.2
          have rz17 : 0 ≤ z17 ∧ z17 ≤ 1 := hw19.1
          replace hw19 := Hd.mk hw19.2
          refine lv_if_eq (tgt := 85) hx hb (dk_at dkX12_others_1 15 rfl) (by decide) (fun c20 => ?_) (fun c20 => ?_)
          · have c20 : z17 = 0 := (i_eq0 (rb rz17 (by decide) (by decide))).mp c20
            refine lv_aload_n hx hb (dk_at dkX12_others_2 3 rfl) rfl (lv_at hl 0 rfl) ?_
            refine lv_ldc2 (v := 6447474) hx hb hown (hts _ (List.mem_cons_of_mem _ wlq_0_58)) (dk_at dkX12_others_2 4 rfl) ?_
            refine tp_l (y := jI 6447474) (by decide +kernel) ?_
            refine x_calli (As := [.long (jI 6447474)]) (rest := []) ⟨hx, hb, hml, hown, hts⟩ (mb_X12_isWord l dC dI cB cI cJ cZ cQ q _ 6447474 hI ⟨by decide, by decide⟩) (cwV 1 hts (goodV wlq_1_59 wlq_2_0 wlq_2_1 wlq_0_8 wlq_0_35) rfl rfl rfl (by decide +kernel) ⟨Nat.le_of_ble_eq_true rfl, Nat.le_of_ble_eq_true rfl⟩) hK hDD hA0 hP hS 0 12 wm0 rfl rfl hl.1 (Nat.le_of_ble_eq_true rfl) (dk_at dkX12_others_2 5 rfl) (fun z21 A22 H locs hw23 hP hS => ?_)
            obtain ⟨rfl, hw23⟩ := hw23
            have ghw23 : q_X12_isWord 6447474 A z21 := hw23
            have hw23 := hw23.2
            have rz21 : 0 ≤ z21 ∧ z21 ≤ 1 := hw23.1
            replace hw23 := Hd.mk hw23.2
            refine lv_if_eq (tgt := 102) hx hb (dk_at dkX12_others_2 6 rfl) (by decide) (fun c24 => ?_) (fun c24 => ?_)
            · have c24 : z21 = 0 := (i_eq0 (rb rz21 (by decide) (by decide))).mp c24
              refine lv_aload_n hx hb (dk_at dkX12_others_2 10 rfl) rfl (lv_at hl 0 rfl) ?_
              refine lv_iconst (v := iI 1) hx hb (dk_at dkX12_others_2 11 rfl) (by decide +kernel) ?_
              refine lv_aload_n hx hb (dk_at dkX12_others_2 12 rfl) rfl (lv_at hl 0 rfl) ?_
              refine va_get (D := (dC, dI)) (ci := 12) (v := .int (iI (A 0 4))) (C := RX12) (T := TX12) (N := 85) hx hb hts hiX12 hown hK hP 0 wm0 rfl 4 (by decide) (hts _ (List.mem_cons_of_mem _ wlq_0_23)) (fun _ h9 => h9) rfl (dk_at dkX12_others_2 13 rfl) ?_
              have r_A_0_4 : (0 : Int) ≤ (A 0 4) ∧ (A 0 4) ≤ 1600 := hI 0 4
              refine x_callv (As := [.int (iI 1), .int (iI (A 0 4))]) (rest := []) ⟨hx, hb, hml, hown, hts⟩ (mc_X12_blame l dC dI cB cI cJ cZ cQ q _ 1 (A 0 4) hI ⟨by decide, by decide⟩ r_A_0_4) (cwV 2 hts (goodV wlq_0_31 wlq_0_32 wlq_0_33 wlq_0_8 wlq_0_15) rfl rfl rfl (by decide +kernel) ⟨Nat.le_of_ble_eq_true rfl, Nat.le_of_ble_eq_true rfl⟩) hK hDD hA0 hP hS 0 12 wm0 rfl rfl hl.1 (Nat.le_of_ble_eq_true rfl) (dk_at dkX12_others_2 14 rfl) (fun A25 H locs hw26 hP hS => ?_)
              have ghw26 : q_X12_blame 1 (A 0 4) A A25 := hw26
              obtain ⟨_, hI, hf27, hw26⟩ := hw26
              have r_A25_0_8 : (0 : Int) ≤ (A25 0 8) ∧ (A25 0 8) ≤ 5 := hI 0 8
              have e_A25_4 : A25 0 4 = (A 0 4) := (hf27.2 4 rfl)
              have e_A25_5 : A25 0 5 = (A 0 5) := (hf27.2 5 rfl)
              have r_A_0_5 : (0 : Int) ≤ (A 0 5) ∧ (A 0 5) ≤ 1600 := by rw [← e_A25_5]; exact hI 0 5
              exact RET _ _ _ _ _ ⟨(u_r_X12_others ⟨z1, ghw3, (Or.inl ⟨c4, ⟨z5, ghw7, (Or.inl ⟨c8, ⟨z9, ghw11, (Or.inl ⟨c12, ⟨z13, ghw15, (Or.inl ⟨c16, ⟨z17, ghw19, (Or.inl ⟨c20, ⟨z21, ghw23, (Or.inl ⟨c24, ⟨A25, ghw26, rfl⟩⟩)⟩⟩)⟩⟩)⟩⟩)⟩⟩)⟩⟩)⟩), hI, fr.trans (fr.rf) hf27 rfl rfl, (CI.fr hcCI hf27 rfl rfl), (WI.fr hcWI hf27 rfl rfl), Hd.mk (fun h => absurd h (by omega))⟩ hP hS (dk_at dkX12_others_2 15 rfl)
            · have c24 : ¬ z21 = 0 := mt (i_eq0 (rb rz21 (by decide) (by decide))).mpr c24
              have hw23b := hw23.out.mp (by omega)
              refine lv_aload_n hx hb (dk_at dkX12_others_2 7 rfl) rfl (lv_at hl 0 rfl) ?_
              have r_A_0_5 : (0 : Int) ≤ (A 0 5) ∧ (A 0 5) ≤ 1600 := hI 0 5
              refine x_callv (As := []) (rest := []) ⟨hx, hb, hml, hown, hts⟩ (mb_X12_barring l dC dI cB cI cJ cZ cQ q _ hI (by exact hp0) hcCI) (cwV 0 hts (goodV wlq_4_7 wlq_4_8 wlq_4_9 wlq_0_8 wlq_3_24) rfl rfl rfl (by decide +kernel) ⟨Nat.le_of_ble_eq_true rfl, Nat.le_of_ble_eq_true rfl⟩) hK hDD hA0 hP hS 0 12 wm0 rfl rfl hl.1 (Nat.le_of_ble_eq_true rfl) (dk_at dkX12_others_2 8 rfl) (fun A28 H locs hw29 hP hS => ?_)
              have ghw29 : q_X12_barring A A28 := hw29
              obtain ⟨_, hI, hf30, hw29⟩ := hw29
              obtain ⟨hc31, hw29⟩ := hw29
              have r_A28_0_4 : (0 : Int) ≤ (A28 0 4) ∧ (A28 0 4) ≤ 1600 := hI 0 4
              have r_A28_0_8 : (0 : Int) ≤ (A28 0 8) ∧ (A28 0 8) ≤ 5 := hI 0 8
              refine lv_goto (tgt := 111) hx hb (dk_at dkX12_others_2 9 rfl) (by decide) ?_
              have r_A28_0_5 : (0 : Int) ≤ (A28 0 5) ∧ (A28 0 5) ≤ 1600 := hI 0 5
              exact RET _ _ _ _ _ ⟨(u_r_X12_others ⟨z1, ghw3, (Or.inl ⟨c4, ⟨z5, ghw7, (Or.inl ⟨c8, ⟨z9, ghw11, (Or.inl ⟨c12, ⟨z13, ghw15, (Or.inl ⟨c16, ⟨z17, ghw19, (Or.inl ⟨c20, ⟨z21, ghw23, (Or.inr ⟨c24, ⟨A28, ghw29, rfl⟩⟩)⟩⟩)⟩⟩)⟩⟩)⟩⟩)⟩⟩)⟩), hI, fr.trans (fr.rf) hf30 rfl rfl, hc31, (WI.fr hcWI hf30 rfl rfl), Hd.mk (fun h0 => by have g := hw29.out (by omega); exact ⟨g.1, by have := g.2; omega⟩)⟩ hP hS (dk_at dkX12_others_2 15 rfl)
          · have c20 : ¬ z17 = 0 := mt (i_eq0 (rb rz17 (by decide) (by decide))).mpr c20
            have hw19b := hw19.out.mp (by omega)
            refine lv_aload_n hx hb (dk_at dkX12_others_2 0 rfl) rfl (lv_at hl 0 rfl) ?_
            have r_A_0_4 : (0 : Int) ≤ (A 0 4) ∧ (A 0 4) ≤ 1600 := hI 0 4
            have r_A_0_5 : (0 : Int) ≤ (A 0 5) ∧ (A 0 5) ≤ 1600 := hI 0 5
            refine x_callv (As := []) (rest := []) ⟨hx, hb, hml, hown, hts⟩ (mb_X12_mustBe l dC dI cB cI cJ cZ cQ q _ hI hp0) (cwV 0 hts (goodV wlq_4_4 wlq_4_5 wlq_4_6 wlq_0_8 wlq_3_19) rfl rfl rfl (by decide +kernel) ⟨Nat.le_of_ble_eq_true rfl, Nat.le_of_ble_eq_true rfl⟩) hK hDD hA0 hP hS 0 12 wm0 rfl rfl hl.1 (Nat.le_of_ble_eq_true rfl) (dk_at dkX12_others_2 1 rfl) (fun A32 H locs hw33 hP hS => ?_)
            have ghw33 : q_X12_mustBe A A32 := hw33
            obtain ⟨_, hI, hf34, hw33⟩ := hw33
            obtain ⟨hc35, hw33⟩ := hw33
            have r_A32_0_4 : (0 : Int) ≤ (A32 0 4) ∧ (A32 0 4) ≤ 1600 := hI 0 4
            have r_A32_0_8 : (0 : Int) ≤ (A32 0 8) ∧ (A32 0 8) ≤ 5 := hI 0 8
            refine lv_goto (tgt := 111) hx hb (dk_at dkX12_others_2 2 rfl) (by decide) ?_
            have r_A32_0_5 : (0 : Int) ≤ (A32 0 5) ∧ (A32 0 5) ≤ 1600 := hI 0 5
            exact RET _ _ _ _ _ ⟨(u_r_X12_others ⟨z1, ghw3, (Or.inl ⟨c4, ⟨z5, ghw7, (Or.inl ⟨c8, ⟨z9, ghw11, (Or.inl ⟨c12, ⟨z13, ghw15, (Or.inl ⟨c16, ⟨z17, ghw19, (Or.inr ⟨c20, ⟨A32, ghw33, rfl⟩⟩)⟩⟩)⟩⟩)⟩⟩)⟩⟩)⟩), hI, fr.trans (fr.rf) hf34 rfl rfl, (CI.fr hcCI hf34 rfl rfl), (WI.fr hcWI hf34 rfl rfl), Hd.mk (fun h0 => ⟨hc35, by omega⟩)⟩ hP hS (dk_at dkX12_others_2 15 rfl)
        · have c16 : ¬ z13 = 0 := mt (i_eq0 (rb rz13 (by decide) (by decide))).mpr c16
          have hw15b := hw15.out.mp (by omega)
          refine lv_aload_n hx hb (dk_at dkX12_others_1 9 rfl) rfl (lv_at hl 0 rfl) ?_
          have r_A_0_4 : (0 : Int) ≤ (A 0 4) ∧ (A 0 4) ≤ 1600 := hI 0 4
          have r_A_0_5 : (0 : Int) ≤ (A 0 5) ∧ (A 0 5) ≤ 1600 := hI 0 5
          refine x_callv (As := []) (rest := []) ⟨hx, hb, hml, hown, hts⟩ (mb_X12_wanting l dC dI cB cI cJ cZ cQ q _ hI hp0 hcWI) (cwV 0 hts (goodV wlq_4_1 wlq_4_2 wlq_4_3 wlq_0_8 wlq_3_15) rfl rfl rfl (by decide +kernel) ⟨Nat.le_of_ble_eq_true rfl, Nat.le_of_ble_eq_true rfl⟩) hK hDD hA0 hP hS 0 12 wm0 rfl rfl hl.1 (Nat.le_of_ble_eq_true rfl) (dk_at dkX12_others_1 10 rfl) (fun A36 H locs hw37 hP hS => ?_)
          have ghw37 : q_X12_wanting A A36 := hw37
          obtain ⟨_, hI, hf38, hw37⟩ := hw37
          obtain ⟨hc39, hw37⟩ := hw37
          obtain ⟨hc40, hw37⟩ := hw37
          have r_A36_0_4 : (0 : Int) ≤ (A36 0 4) ∧ (A36 0 4) ≤ 1600 := hI 0 4
          have r_A36_0_8 : (0 : Int) ≤ (A36 0 8) ∧ (A36 0 8) ≤ 5 := hI 0 8
          refine lv_goto (tgt := 111) hx hb (dk_at dkX12_others_1 11 rfl) (by decide) ?_
          have r_A36_0_5 : (0 : Int) ≤ (A36 0 5) ∧ (A36 0 5) ≤ 1600 := hI 0 5
          exact RET _ _ _ _ _ ⟨(u_r_X12_others ⟨z1, ghw3, (Or.inl ⟨c4, ⟨z5, ghw7, (Or.inl ⟨c8, ⟨z9, ghw11, (Or.inl ⟨c12, ⟨z13, ghw15, (Or.inr ⟨c16, ⟨A36, ghw37, rfl⟩⟩)⟩⟩)⟩⟩)⟩⟩)⟩), hI, fr.trans (fr.rf) hf38 rfl rfl, (CI.fr hcCI hf38 rfl rfl), hc40, Hd.mk (fun h0 => ⟨hc39, by omega⟩)⟩ hP hS (dk_at dkX12_others_2 15 rfl)
      · have c12 : ¬ z9 = 0 := mt (i_eq0 (rb rz9 (by decide) (by decide))).mpr c12
        have hw11b := hw11.out.mp (by omega)
        refine lv_aload_n hx hb (dk_at dkX12_others_1 2 rfl) rfl (lv_at hl 0 rfl) ?_
        have r_A_0_4 : (0 : Int) ≤ (A 0 4) ∧ (A 0 4) ≤ 1600 := hI 0 4
        have r_A_0_5 : (0 : Int) ≤ (A 0 5) ∧ (A 0 5) ≤ 1600 := hI 0 5
        refine x_callv (As := []) (rest := []) ⟨hx, hb, hml, hown, hts⟩ (mb_X12_thing l dC dI cB cI cJ cZ cQ q _ hI hp0) (cwV 0 hts (goodV wlq_3_58 wlq_3_59 wlq_4_0 wlq_0_8 wlq_3_13) rfl rfl rfl (by decide +kernel) ⟨Nat.le_of_ble_eq_true rfl, Nat.le_of_ble_eq_true rfl⟩) hK hDD hA0 hP hS 0 12 wm0 rfl rfl hl.1 (Nat.le_of_ble_eq_true rfl) (dk_at dkX12_others_1 3 rfl) (fun A41 H locs hw42 hP hS => ?_)
        have ghw42 : q_X12_thing A A41 := hw42
        obtain ⟨_, hI, hf43, hw42⟩ := hw42
        obtain ⟨hc44, hw42⟩ := hw42
        have r_A41_0_4 : (0 : Int) ≤ (A41 0 4) ∧ (A41 0 4) ≤ 1600 := hI 0 4
        have r_A41_0_8 : (0 : Int) ≤ (A41 0 8) ∧ (A41 0 8) ≤ 5 := hI 0 8
        refine lv_goto (tgt := 111) hx hb (dk_at dkX12_others_1 4 rfl) (by decide) ?_
        have r_A41_0_5 : (0 : Int) ≤ (A41 0 5) ∧ (A41 0 5) ≤ 1600 := hI 0 5
        exact RET _ _ _ _ _ ⟨(u_r_X12_others ⟨z1, ghw3, (Or.inl ⟨c4, ⟨z5, ghw7, (Or.inl ⟨c8, ⟨z9, ghw11, (Or.inr ⟨c12, ⟨A41, ghw42, rfl⟩⟩)⟩⟩)⟩⟩)⟩), hI, fr.trans (fr.rf) hf43 rfl rfl, (CI.fr hcCI hf43 rfl rfl), (WI.fr hcWI hf43 rfl rfl), Hd.mk (fun h0 => ⟨hc44, by omega⟩)⟩ hP hS (dk_at dkX12_others_2 15 rfl)
    · have c8 : ¬ z5 = 0 := mt (i_eq0 (rb rz5 (by decide) (by decide))).mpr c8
      have hw7b := hw7.out.mp (by omega)
      refine lv_aload_n hx hb (dk_at dkX12_others_0 11 rfl) rfl (lv_at hl 0 rfl) ?_
      have r_A_0_4 : (0 : Int) ≤ (A 0 4) ∧ (A 0 4) ≤ 1600 := hI 0 4
      have r_A_0_5 : (0 : Int) ≤ (A 0 5) ∧ (A 0 5) ≤ 1600 := hI 0 5
      refine x_callv (As := []) (rest := []) ⟨hx, hb, hml, hown, hts⟩ (mb_X12_losing l dC dI cB cI cJ cZ cQ q _ hI hp0) (cwV 0 hts (goodV wlq_3_55 wlq_3_56 wlq_3_57 wlq_0_8 wlq_3_12) rfl rfl rfl (by decide +kernel) ⟨Nat.le_of_ble_eq_true rfl, Nat.le_of_ble_eq_true rfl⟩) hK hDD hA0 hP hS 0 12 wm0 rfl rfl hl.1 (Nat.le_of_ble_eq_true rfl) (dk_at dkX12_others_0 12 rfl) (fun A45 H locs hw46 hP hS => ?_)
      have ghw46 : q_X12_losing A A45 := hw46
      obtain ⟨_, hI, hf47, hw46⟩ := hw46
      obtain ⟨hc48, hw46⟩ := hw46
      have r_A45_0_4 : (0 : Int) ≤ (A45 0 4) ∧ (A45 0 4) ≤ 1600 := hI 0 4
      have r_A45_0_8 : (0 : Int) ≤ (A45 0 8) ∧ (A45 0 8) ≤ 5 := hI 0 8
      refine lv_goto (tgt := 111) hx hb (dk_at dkX12_others_0 13 rfl) (by decide) ?_
      have r_A45_0_5 : (0 : Int) ≤ (A45 0 5) ∧ (A45 0 5) ≤ 1600 := hI 0 5
      exact RET _ _ _ _ _ ⟨(u_r_X12_others ⟨z1, ghw3, (Or.inl ⟨c4, ⟨z5, ghw7, (Or.inr ⟨c8, ⟨A45, ghw46, rfl⟩⟩)⟩⟩)⟩), hI, fr.trans (fr.rf) hf47 rfl rfl, (CI.fr hcCI hf47 rfl rfl), (WI.fr hcWI hf47 rfl rfl), Hd.mk (fun h0 => ⟨hc48, by omega⟩)⟩ hP hS (dk_at dkX12_others_2 15 rfl)
  · have c4 : ¬ z1 = 0 := mt (i_eq0 (rb rz1 (by decide) (by decide))).mpr c4
    have hw3b := hw3.out.mp (by omega)
    refine lv_aload_n hx hb (dk_at dkX12_others_0 4 rfl) rfl (lv_at hl 0 rfl) ?_
    have r_A_0_4 : (0 : Int) ≤ (A 0 4) ∧ (A 0 4) ≤ 1600 := hI 0 4
    have r_A_0_5 : (0 : Int) ≤ (A 0 5) ∧ (A 0 5) ≤ 1600 := hI 0 5
    refine x_callv (As := []) (rest := []) ⟨hx, hb, hml, hown, hts⟩ (mb_X12_shutting l dC dI cB cI cJ cZ cQ q _ hI hp0) (cwV 0 hts (goodV wlq_3_52 wlq_3_53 wlq_3_54 wlq_0_8 wlq_3_8) rfl rfl rfl (by decide +kernel) ⟨Nat.le_of_ble_eq_true rfl, Nat.le_of_ble_eq_true rfl⟩) hK hDD hA0 hP hS 0 12 wm0 rfl rfl hl.1 (Nat.le_of_ble_eq_true rfl) (dk_at dkX12_others_0 5 rfl) (fun A49 H locs hw50 hP hS => ?_)
    have ghw50 : q_X12_shutting A A49 := hw50
    obtain ⟨_, hI, hf51, hw50⟩ := hw50
    obtain ⟨hc52, hw50⟩ := hw50
    have r_A49_0_4 : (0 : Int) ≤ (A49 0 4) ∧ (A49 0 4) ≤ 1600 := hI 0 4
    have r_A49_0_8 : (0 : Int) ≤ (A49 0 8) ∧ (A49 0 8) ≤ 5 := hI 0 8
    refine lv_goto (tgt := 111) hx hb (dk_at dkX12_others_0 6 rfl) (by decide) ?_
    have r_A49_0_5 : (0 : Int) ≤ (A49 0 5) ∧ (A49 0 5) ≤ 1600 := hI 0 5
    exact RET _ _ _ _ _ ⟨(u_r_X12_others ⟨z1, ghw3, (Or.inr ⟨c4, ⟨A49, ghw50, rfl⟩⟩)⟩), hI, fr.trans (fr.rf) hf51 rfl rfl, (CI.fr hcCI hf51 rfl rfl), (WI.fr hcWI hf51 rfl rfl), Hd.mk (fun h0 => ⟨hc52, by omega⟩)⟩ hP hS (dk_at dkX12_others_2 15 rfl)

abbrev tr_d_X12_statement_1 (u : St) (A56 : St) : Prop := ((IM A56) ∧ (((¬ (A56 0 8) = 0) ∧ (u = A56)) ∨ (((A56 0 8) = 0) ∧ (∃ A62 : St, q_X12_must 59 A56 A62 ∧ (u = A62)))))
def d_X12_statement_1 (u : St) (A56 : St) : Prop := tr_d_X12_statement_1 u A56
theorem u_d_X12_statement_1 {u : St} {A56 : St} (h : tr_d_X12_statement_1 u A56) : d_X12_statement_1 u A56 := h
abbrev tr_r_X12_statement (A : St) (u : St) : Prop := (∃ z1 : Int, q_X12_isWord 482854658917 A z1 ∧ (((z1 = 0) ∧ (∃ z6 : Int, q_X12_isWord 1685024626 A z6 ∧ (((z6 = 0) ∧ (∃ z10 : Int, q_X12_isWord 6451064 A z10 ∧ (((z10 = 0) ∧ (∃ z14 : Int, q_X12_isWord 7038329 A z14 ∧ (((z14 = 0) ∧ (∃ z18 : Int, q_X12_isWord 123581014175598 A z18 ∧ (((z18 = 0) ∧ (∃ z22 : Int, q_X12_isWord 6840691 A z22 ∧ (((z22 = 0) ∧ (∃ A26 : St, q_X12_others A A26 ∧ (d_X12_statement_1 u A26))) ∨ ((¬ z22 = 0) ∧ (∃ A31 : St, q_X12_having A A31 ∧ (d_X12_statement_1 u A31)))))) ∨ ((¬ z18 = 0) ∧ (∃ A35 : St, q_X12_person A A35 ∧ (d_X12_statement_1 u A35)))))) ∨ ((¬ z14 = 0) ∧ (∃ A39 : St, q_X12_key A A39 ∧ (d_X12_statement_1 u A39)))))) ∨ ((¬ z10 = 0) ∧ (∃ A43 : St, q_X12_door 1 A A43 ∧ (d_X12_statement_1 u A43)))))) ∨ ((¬ z6 = 0) ∧ (∃ A47 : St, q_X12_door 0 A A47 ∧ (d_X12_statement_1 u A47)))))) ∨ ((¬ z1 = 0) ∧ (∃ A51 : St, q_X12_place A A51 ∧ (d_X12_statement_1 u A51)))))
def r_X12_statement (A : St) (u : St) : Prop := tr_r_X12_statement A u
theorem u_r_X12_statement {A : St} {u : St} (h : tr_r_X12_statement A u) : r_X12_statement A u := h
def q_X12_statement (A : St) (u : St) : Prop := r_X12_statement A u ∧ IM u ∧ fr [2, 3, 4, 5, 6, 7, 8, 9, 10, 11, 12, 13, 14, 15, 16, 17, 18, 19, 20, 21, 22, 23, 24, 25, 26, 27, 28, 29, 30, 31, 32, 33, 34, 35, 36, 37, 38, 39, 40] [3, 4, 5, 6, 7, 8, 9, 46, 53, 54, 56, 57] A u ∧ CI u ∧ WI u ∧ (Hd (u 0 8 = 0 → CB u ∧ A 0 5 ≤ u 0 4))
def ws_mb_X12_statement : List Cond := .code yX12_statement cX12_statement 1 none :: WX
set_option maxHeartbeats 4000000 in
set_option maxRecDepth 100000 in
theorem mb_X12_statement (l : Launch) (dC : Nat → ClassId) (dI : Nat → Nat → Nat) (cB cI cJ cZ cQ : ClassId) (q : Nat → Nat) (A : St) (hI : IM A) (hp0 : CB A) (hcCI : CI A) (hcWI : WI A) : XMv l yX12_statement ws_mb_X12_statement ({ frames := 7, cells := 0, slots := 0, locals := 155 } : Room) (dC, dI) (tyA cB cI cJ cZ cQ) (WM cI cJ cZ q) A [.ref (q 0)] (fun u => r_X12_statement A u ∧ IM u ∧ fr [2, 3, 4, 5, 6, 7, 8, 9, 10, 11, 12, 13, 14, 15, 16, 17, 18, 19, 20, 21, 22, 23, 24, 25, 26, 27, 28, 29, 30, 31, 32, 33, 34, 35, 36, 37, 38, 39, 40] [3, 4, 5, 6, 7, 8, 9, 46, 53, 54, 56, 57] A u ∧ CI u ∧ WI u ∧ (Hd (u 0 8 = 0 → CB u ∧ A 0 5 ≤ u 0 4))) := by
  refine x_metv (cc := cX12_statement) (maxL := 1) WM_adr (by decide +kernel) rfl (Nat.le_of_ble_eq_true rfl) (fun p e s m below meth c Q AS ls hx hb hml hown hts hK hDD hA0 hP hS hl RET => ?_)
  have hown : s.vm.findClass RX12 = some m.cls := hown
  have hl : lv_has ls 1 [(0, .ref (q 0))] := hl
  have hiX12 : ∀ w ∈ u_ws RX12 TX12 85, w ∈ ws_mb_X12_statement := fun w h => List.mem_cons_of_mem _ (wx_lay w h)
  obtain ⟨H, hHe⟩ : ∃ H : Heap, H = s.heap := ⟨_, rfl⟩
  rw [← hHe] at hP
  have hS : va_S AS s.heap H [] := by rw [hHe]; exact hS
  suffices hgo : ∀ locs : List Loc, va_S AS s.heap H locs → W p l e (headSpec ws_mb_X12_statement ({ frames := 7, cells := 0, slots := 0, locals := 155 } : Room)).room s m [.ref (q 0)].toArray below meth c H locs 0 0 Q (F0 m 0 ls []) by
    have := hgo [] hS
    rw [hHe] at this
    exact this
  clear hS hHe
  intro locs hS
  have hle := CB.le hp0
  refine lv_aload_n hx hb (dk_at dkX12_statement_0 0 rfl) rfl (lv_at hl 0 rfl) ?_
  refine lv_ldc2 (v := 482854658917) hx hb hown (hts _ (List.mem_cons_of_mem _ wlq_0_44)) (dk_at dkX12_statement_0 1 rfl) ?_
  refine tp_l (y := jI 482854658917) (by decide +kernel) ?_
  have r_A_0_3 : (0 : Int) ≤ (A 0 3) ∧ (A 0 3) ≤ 3 := hI 0 3
  have r_A_0_7 : (-9223372036854775808 : Int) ≤ (A 0 7) ∧ (A 0 7) ≤ 9223372036854775807 := hI 0 7
  refine x_calli (As := [.long (jI 482854658917)]) (rest := []) ⟨hx, hb, hml, hown, hts⟩ (mb_X12_isWord l dC dI cB cI cJ cZ cQ q _ 482854658917 hI ⟨by decide, by decide⟩) (cwV 1 hts (goodV wlq_1_59 wlq_2_0 wlq_2_1 wlq_0_8 wlq_0_35) rfl rfl rfl (by decide +kernel) ⟨Nat.le_of_ble_eq_true rfl, Nat.le_of_ble_eq_true rfl⟩) hK hDD hA0 hP hS 0 12 wm0 rfl rfl hl.1 (Nat.le_of_ble_eq_true rfl) (dk_at dkX12_statement_0 2 rfl) (fun z1 A2 H locs hw3 hP hS => ?_)
  obtain ⟨rfl, hw3⟩ := hw3
  have ghw3 : q_X12_isWord 482854658917 A z1 := hw3
  have hw3 := hw3.2
  have rz1 : 0 ≤ z1 ∧ z1 ≤ 1 := hw3.1
  replace hw3 := Hd.mk hw3.2
  have J108_5 : ∀ (A56 : St) (H : Heap) (locs : List Loc) (ls : Array Slot), (Hd ((A56 0 8) = 0 → CB A56 ∧ A 0 5 ≤ (A56 0 4))) → (CI A56) → (WI A56) → (∀ (u : St), (d_X12_statement_1 u A56) → r_X12_statement A u) → IM A56 → fr [2, 3, 4, 5, 6, 7, 8, 9, 10, 11, 12, 13, 14, 15, 16, 17, 18, 19, 20, 21, 22, 23, 24, 25, 26, 27, 28, 29, 30, 31, 32, 33, 34, 35, 36, 37, 38, 39, 40] [3, 4, 5, 6, 7, 8, 9, 46, 53, 54, 56, 57] A A56 → va_P (dC, dI) vwCl (WM cI cJ cZ q A56) H → va_S AS s.heap H locs → lv_has ls 1 [(0, .ref (q 0))] → W p l e (headSpec ws_mb_X12_statement ({ frames := 7, cells := 0, slots := 0, locals := 155 } : Room)).room s m [.ref (q 0)].toArray below meth c H locs 0 0 Q (F0 m 108 ls []) := by
    intro A56 H locs ls f57 hc58 hc59 hk1 hI hj55 hP hS hl
    have gI60 : Hd (IM A56) := Hd.mk hI
    refine lv_aload_n hx hb (dk_at dkX12_statement_2 14 rfl) rfl (lv_at hl 0 rfl) ?_
    refine va_get (D := (dC, dI)) (ci := 12) (v := .int (iI (A56 0 8))) (C := RX12) (T := TX12) (N := 85) hx hb hts hiX12 hown hK hP 0 wm0 rfl 8 (by decide) (hts _ (List.mem_cons_of_mem _ wlq_0_16)) (fun _ h9 => h9) rfl (dk_at dkX12_statement_2 15 rfl) ?_
    have r_A56_0_8 : (0 : Int) ≤ (A56 0 8) ∧ (A56 0 8) ≤ 5 := hI 0 8
    refine lv_if_ne (tgt := 121) hx hb (dk_at dkX12_statement_3 0 rfl) (by decide) (fun c61 => ?_) (fun c61 => ?_)
    · have c61 : ¬ (A56 0 8) = 0 := mt (i_eq0 (rb r_A56_0_8 (by decide) (by decide))).mpr c61
      have r_A56_0_4 : (0 : Int) ≤ (A56 0 4) ∧ (A56 0 4) ≤ 1600 := hI 0 4
      have r_A56_0_5 : (0 : Int) ≤ (A56 0 5) ∧ (A56 0 5) ≤ 1600 := hI 0 5
      exact RET _ _ _ _ _ ⟨hk1 _ (u_d_X12_statement_1 ⟨gI60.out, (Or.inl ⟨c61, rfl⟩)⟩), hI, fr.trans (fr.rf) hj55 rfl rfl, hc58, hc59, Hd.mk (fun h => absurd h (by omega))⟩ hP hS (dk_at dkX12_statement_3 4 rfl)
    · have c61 : (A56 0 8) = 0 := (i_eq0 (rb r_A56_0_8 (by decide) (by decide))).mp c61
      have gst := f57.out (by omega)
      refine lv_aload_n hx hb (dk_at dkX12_statement_3 1 rfl) rfl (lv_at hl 0 rfl) ?_
      refine lv_bipush (v := iI 59) hx hb (dk_at dkX12_statement_3 2 rfl) (by decide +kernel) ?_
      have r_A56_0_4 : (0 : Int) ≤ (A56 0 4) ∧ (A56 0 4) ≤ 1600 := hI 0 4
      refine x_callv (As := [.int (iI 59)]) (rest := []) ⟨hx, hb, hml, hown, hts⟩ (mb_X12_must l dC dI cB cI cJ cZ cQ q _ 59 hI ⟨by decide, by decide⟩ gst.1) (cwV 1 hts (goodV wlq_4_10 wlq_4_11 wlq_4_12 wlq_0_8 wlq_0_36) rfl rfl rfl (by decide +kernel) ⟨Nat.le_of_ble_eq_true rfl, Nat.le_of_ble_eq_true rfl⟩) hK hDD hA0 hP hS 0 12 wm0 rfl rfl hl.1 (Nat.le_of_ble_eq_true rfl) (dk_at dkX12_statement_3 3 rfl) (fun A62 H locs hw63 hP hS => ?_)
      have ghw63 : q_X12_must 59 A56 A62 := hw63
      obtain ⟨_, hI, hf64, hw63⟩ := hw63
      obtain ⟨hc65, hw63⟩ := hw63
      have r_A62_0_4 : (0 : Int) ≤ (A62 0 4) ∧ (A62 0 4) ≤ 1600 := hI 0 4
      have r_A62_0_5 : (0 : Int) ≤ (A62 0 5) ∧ (A62 0 5) ≤ 1600 := hI 0 5
      have r_A62_0_8 : (0 : Int) ≤ (A62 0 8) ∧ (A62 0 8) ≤ 5 := hI 0 8
      exact RET _ _ _ _ _ ⟨hk1 _ (u_d_X12_statement_1 ⟨gI60.out, (Or.inr ⟨c61, ⟨A62, ghw63, rfl⟩⟩)⟩), hI, fr.trans (fr.trans (fr.rf) hj55 rfl rfl) hf64 rfl rfl, (CI.fr hc58 hf64 rfl rfl), (WI.fr hc59 hf64 rfl rfl), Hd.mk (fun h0 => ⟨hc65, by have := gst.2; omega⟩)⟩ hP hS (dk_at dkX12_statement_3 4 rfl)
  refine lv_if_eq (tgt := 17) hx hb (dk_at dkX12_statement_0 3 rfl) (by decide) (fun c4 => ?_) (fun c4 => ?_)
  · have c4 : z1 = 0 := (i_eq0 (rb rz1 (by decide) (by decide))).mp c4
    refine lv_aload_n hx hb (dk_at dkX12_statement_0 7 rfl) rfl (lv_at hl 0 rfl) ?_
    refine lv_ldc2 (v := 1685024626) hx hb hown (hts _ (List.mem_cons_of_mem _ wlq_0_45)) (dk_at dkX12_statement_0 8 rfl) ?_
    refine tp_l (y := jI 1685024626) (by decide +kernel) ?_
    refine x_calli (As := [.long (jI 1685024626)]) (rest := []) ⟨hx, hb, hml, hown, hts⟩ (mb_X12_isWord l dC dI cB cI cJ cZ cQ q _ 1685024626 hI ⟨by decide, by decide⟩) (cwV 1 hts (goodV wlq_1_59 wlq_2_0 wlq_2_1 wlq_0_8 wlq_0_35) rfl rfl rfl (by decide +kernel) ⟨Nat.le_of_ble_eq_true rfl, Nat.le_of_ble_eq_true rfl⟩) hK hDD hA0 hP hS 0 12 wm0 rfl rfl hl.1 (Nat.le_of_ble_eq_true rfl) (dk_at dkX12_statement_0 9 rfl) (fun z6 A7 H locs hw8 hP hS => ?_)
    obtain ⟨rfl, hw8⟩ := hw8
    have ghw8 : q_X12_isWord 1685024626 A z6 := hw8
    have hw8 := hw8.2
    have rz6 : 0 ≤ z6 ∧ z6 ≤ 1 := hw8.1
    replace hw8 := Hd.mk hw8.2
    refine lv_if_eq (tgt := 35) hx hb (dk_at dkX12_statement_0 10 rfl) (by decide) (fun c9 => ?_) (fun c9 => ?_)
    · have c9 : z6 = 0 := (i_eq0 (rb rz6 (by decide) (by decide))).mp c9
      refine lv_aload_n hx hb (dk_at dkX12_statement_0 15 rfl) rfl (lv_at hl 0 rfl) ?_
      refine lv_ldc2 (v := 6451064) hx hb hown (hts _ (List.mem_cons_of_mem _ wlq_0_46)) (dk_at dkX12_statement_1 0 rfl) ?_
      refine tp_l (y := jI 6451064) (by decide +kernel) ?_
      refine x_calli (As := [.long (jI 6451064)]) (rest := []) ⟨hx, hb, hml, hown, hts⟩ (mb_X12_isWord l dC dI cB cI cJ cZ cQ q _ 6451064 hI ⟨by decide, by decide⟩) (cwV 1 hts (goodV wlq_1_59 wlq_2_0 wlq_2_1 wlq_0_8 wlq_0_35) rfl rfl rfl (by decide +kernel) ⟨Nat.le_of_ble_eq_true rfl, Nat.le_of_ble_eq_true rfl⟩) hK hDD hA0 hP hS 0 12 wm0 rfl rfl hl.1 (Nat.le_of_ble_eq_true rfl) (dk_at dkX12_statement_1 1 rfl) (fun z10 A11 H locs hw12 hP hS => ?_)
      obtain ⟨rfl, hw12⟩ := hw12
      have ghw12 : q_X12_isWord 6451064 A z10 := hw12
      have hw12 := hw12.2
      have rz10 : 0 ≤ z10 ∧ z10 ≤ 1 := hw12.1
      replace hw12 := Hd.mk hw12.2
      refine lv_if_eq (tgt := 53) hx hb (dk_at dkX12_statement_1 2 rfl) (by decide) (fun c13 => ?_) (fun c13 => ?_)
      · have c13 : z10 = 0 := (i_eq0 (rb rz10 (by decide) (by decide))).mp c13
        refine lv_aload_n hx hb (dk_at dkX12_statement_1 7 rfl) rfl (lv_at hl 0 rfl) ?_
        refine lv_ldc2 (v := 7038329) hx hb hown (hts _ (List.mem_cons_of_mem _ wlq_0_48)) (dk_at dkX12_statement_1 8 rfl) ?_
        refine tp_l (y := jI 7038329) (by decide +kernel) ?_
        refine x_calli (As := [.long (jI 7038329)]) (rest := []) ⟨hx, hb, hml, hown, hts⟩ (mb_X12_isWord l dC dI cB cI cJ cZ cQ q _ 7038329 hI ⟨by decide, by decide⟩) (cwV 1 hts (goodV wlq_1_59 wlq_2_0 wlq_2_1 wlq_0_8 wlq_0_35) rfl rfl rfl (by decide +kernel) ⟨Nat.le_of_ble_eq_true rfl, Nat.le_of_ble_eq_true rfl⟩) hK hDD hA0 hP hS 0 12 wm0 rfl rfl hl.1 (Nat.le_of_ble_eq_true rfl) (dk_at dkX12_statement_1 9 rfl) (fun z14 A15 H locs hw16 hP hS => ?_)
        obtain ⟨rfl, hw16⟩ := hw16
        have ghw16 : q_X12_isWord 7038329 A z14 := hw16
        have hw16 := hw16.2
        have rz14 : 0 ≤ z14 ∧ z14 ≤ 1 := hw16.1
        replace hw16 := Hd.mk hw16.2
        refine lv_if_eq (tgt := 70) hx hb (dk_at dkX12_statement_1 10 rfl) (by decide) (fun c17 => ?_) (fun c17 => ?_)
        · have c17 : z14 = 0 := (i_eq0 (rb rz14 (by decide) (by decide))).mp c17
          refine lv_aload_n hx hb (dk_at dkX12_statement_1 14 rfl) rfl (lv_at hl 0 rfl) ?_
          refine lv_ldc2 (v := 123581014175598) hx hb hown (hts _ (List.mem_cons_of_mem _ wlq_0_50)) (dk_at dkX12_statement_1 15 rfl) ?_
          refine tp_l (y := jI 123581014175598) (by decide +kernel) ?_
          refine x_calli (As := [.long (jI 123581014175598)]) (rest := []) ⟨hx, hb, hml, hown, hts⟩ (mb_X12_isWord l dC dI cB cI cJ cZ cQ q _ 123581014175598 hI ⟨by decide, by decide⟩) (cwV 1 hts (goodV wlq_1_59 wlq_2_0 wlq_2_1 wlq_0_8 wlq_0_35) rfl rfl rfl (by decide +kernel) ⟨Nat.le_of_ble_eq_true rfl, Nat.le_of_ble_eq_true rfl⟩) hK hDD hA0 hP hS 0 12 wm0 rfl rfl hl.1 (Nat.le_of_ble_eq_true rfl) (dk_at dkX12_statement_2 0 rfl) (fun z18 A19 H locs hw20 hP hS => ?_)
          obtain ⟨rfl, hw20⟩ := hw20
          have ghw20 : q_X12_isWord 123581014175598 A z18 := hw20
          have hw20 := hw20.2
          have rz18 : 0 ≤ z18 ∧ z18 ≤ 1 := hw20.1
          replace hw20 := Hd.mk hw20.2
          refine lv_if_eq (tgt := 87) hx hb (dk_at dkX12_statement_2 1 rfl) (by decide) (fun c21 => ?_) (fun c21 => ?_)
          · have c21 : z18 = 0 := (i_eq0 (rb rz18 (by decide) (by decide))).mp c21
            refine lv_aload_n hx hb (dk_at dkX12_statement_2 5 rfl) rfl (lv_at hl 0 rfl) ?_
            refine lv_ldc2 (v := 6840691) hx hb hown (hts _ (List.mem_cons_of_mem _ wlq_0_51)) (dk_at dkX12_statement_2 6 rfl) ?_
            refine tp_l (y := jI 6840691) (by decide +kernel) ?_
            refine x_calli (As := [.long (jI 6840691)]) (rest := []) ⟨hx, hb, hml, hown, hts⟩ (mb_X12_isWord l dC dI cB cI cJ cZ cQ q _ 6840691 hI ⟨by decide, by decide⟩) (cwV 1 hts (goodV wlq_1_59 wlq_2_0 wlq_2_1 wlq_0_8 wlq_0_35) rfl rfl rfl (by decide +kernel) ⟨Nat.le_of_ble_eq_true rfl, Nat.le_of_ble_eq_true rfl⟩) hK hDD hA0 hP hS 0 12 wm0 rfl rfl hl.1 (Nat.le_of_ble_eq_true rfl) (dk_at dkX12_statement_2 7 rfl) (fun z22 A23 H locs hw24 hP hS => ?_)
            obtain ⟨rfl, hw24⟩ := hw24
            have ghw24 : q_X12_isWord 6840691 A z22 := hw24
            have hw24 := hw24.2
            have rz22 : 0 ≤ z22 ∧ z22 ≤ 1 := hw24.1
            replace hw24 := Hd.mk hw24.2
            refine lv_if_eq (tgt := 104) hx hb (dk_at dkX12_statement_2 8 rfl) (by decide) (fun c25 => ?_) (fun c25 => ?_)
            · have c25 : z22 = 0 := (i_eq0 (rb rz22 (by decide) (by decide))).mp c25
              refine lv_aload_n hx hb (dk_at dkX12_statement_2 12 rfl) rfl (lv_at hl 0 rfl) ?_
              have r_A_0_5 : (0 : Int) ≤ (A 0 5) ∧ (A 0 5) ≤ 1600 := hI 0 5
              refine x_callv (As := []) (rest := []) ⟨hx, hb, hml, hown, hts⟩ (mb_X12_others l dC dI cB cI cJ cZ cQ q _ hI (by exact hp0) hcCI hcWI) (cwV 0 hts (goodV wlq_3_48 wlq_3_49 wlq_3_50 wlq_0_8 wlq_3_51) rfl rfl rfl (by decide +kernel) ⟨Nat.le_of_ble_eq_true rfl, Nat.le_of_ble_eq_true rfl⟩) hK hDD hA0 hP hS 0 12 wm0 rfl rfl hl.1 (Nat.le_of_ble_eq_true rfl) (dk_at dkX12_statement_2 13 rfl) (fun A26 H locs hw27 hP hS => ?_)
              have ghw27 : q_X12_others A A26 := hw27
              obtain ⟨_, hI, hf28, hw27⟩ := hw27
              obtain ⟨hc29, hw27⟩ := hw27
              obtain ⟨hc30, hw27⟩ := hw27
              have r_A26_0_4 : (0 : Int) ≤ (A26 0 4) ∧ (A26 0 4) ≤ 1600 := hI 0 4
              have r_A26_0_8 : (0 : Int) ≤ (A26 0 8) ∧ (A26 0 8) ≤ 5 := hI 0 8
              exact J108_5 _ _ _ _ (by exact Hd.mk (fun h0 => by have g := hw27.out (by omega); exact ⟨g.1, by have := g.2; omega⟩)) hc29 hc30 (fun uq hq => (u_r_X12_statement ⟨z1, ghw3, (Or.inl ⟨c4, ⟨z6, ghw8, (Or.inl ⟨c9, ⟨z10, ghw12, (Or.inl ⟨c13, ⟨z14, ghw16, (Or.inl ⟨c17, ⟨z18, ghw20, (Or.inl ⟨c21, ⟨z22, ghw24, (Or.inl ⟨c25, ⟨A26, ghw27, hq⟩⟩)⟩⟩)⟩⟩)⟩⟩)⟩⟩)⟩⟩)⟩)) hI (fr.trans (fr.rf) hf28 rfl rfl) hP hS (lv_sub hl [0] rfl)
            · have c25 : ¬ z22 = 0 := mt (i_eq0 (rb rz22 (by decide) (by decide))).mpr c25
              have hw24b := hw24.out.mp (by omega)
              refine lv_aload_n hx hb (dk_at dkX12_statement_2 9 rfl) rfl (lv_at hl 0 rfl) ?_
              have r_A_0_4 : (0 : Int) ≤ (A 0 4) ∧ (A 0 4) ≤ 1600 := hI 0 4
              have r_A_0_5 : (0 : Int) ≤ (A 0 5) ∧ (A 0 5) ≤ 1600 := hI 0 5
              refine x_callv (As := []) (rest := []) ⟨hx, hb, hml, hown, hts⟩ (mb_X12_having l dC dI cB cI cJ cZ cQ q _ hI hp0) (cwV 0 hts (goodV wlq_3_45 wlq_3_46 wlq_3_47 wlq_0_8 wlq_3_5) rfl rfl rfl (by decide +kernel) ⟨Nat.le_of_ble_eq_true rfl, Nat.le_of_ble_eq_true rfl⟩) hK hDD hA0 hP hS 0 12 wm0 rfl rfl hl.1 (Nat.le_of_ble_eq_true rfl) (dk_at dkX12_statement_2 10 rfl) (fun A31 H locs hw32 hP hS => ?_)
              have ghw32 : q_X12_having A A31 := hw32
              obtain ⟨_, hI, hf33, hw32⟩ := hw32
              obtain ⟨hc34, hw32⟩ := hw32
              have r_A31_0_4 : (0 : Int) ≤ (A31 0 4) ∧ (A31 0 4) ≤ 1600 := hI 0 4
              have r_A31_0_8 : (0 : Int) ≤ (A31 0 8) ∧ (A31 0 8) ≤ 5 := hI 0 8
              refine lv_goto (tgt := 108) hx hb (dk_at dkX12_statement_2 11 rfl) (by decide) ?_
              exact J108_5 _ _ _ _ (by exact Hd.mk (fun h0 => ⟨hc34, by omega⟩)) (CI.fr hcCI hf33 rfl rfl) (WI.fr hcWI hf33 rfl rfl) (fun uq hq => (u_r_X12_statement ⟨z1, ghw3, (Or.inl ⟨c4, ⟨z6, ghw8, (Or.inl ⟨c9, ⟨z10, ghw12, (Or.inl ⟨c13, ⟨z14, ghw16, (Or.inl ⟨c17, ⟨z18, ghw20, (Or.inl ⟨c21, ⟨z22, ghw24, (Or.inr ⟨c25, ⟨A31, ghw32, hq⟩⟩)⟩⟩)⟩⟩)⟩⟩)⟩⟩)⟩⟩)⟩)) hI (fr.trans (fr.rf) hf33 rfl rfl) hP hS (lv_sub hl [0] rfl)
          · have c21 : ¬ z18 = 0 := mt (i_eq0 (rb rz18 (by decide) (by decide))).mpr c21
            have hw20b := hw20.out.mp (by omega)
            refine lv_aload_n hx hb (dk_at dkX12_statement_2 2 rfl) rfl (lv_at hl 0 rfl) ?_
            have r_A_0_4 : (0 : Int) ≤ (A 0 4) ∧ (A 0 4) ≤ 1600 := hI 0 4
            have r_A_0_5 : (0 : Int) ≤ (A 0 5) ∧ (A 0 5) ≤ 1600 := hI 0 5
            refine x_callv (As := []) (rest := []) ⟨hx, hb, hml, hown, hts⟩ (mb_X12_person l dC dI cB cI cJ cZ cQ q _ hI hp0) (cwV 0 hts (goodV wlq_3_42 wlq_3_43 wlq_3_44 wlq_0_8 wlq_3_3) rfl rfl rfl (by decide +kernel) ⟨Nat.le_of_ble_eq_true rfl, Nat.le_of_ble_eq_true rfl⟩) hK hDD hA0 hP hS 0 12 wm0 rfl rfl hl.1 (Nat.le_of_ble_eq_true rfl) (dk_at dkX12_statement_2 3 rfl) (fun A35 H locs hw36 hP hS => ?_)
            have ghw36 : q_X12_person A A35 := hw36
            obtain ⟨_, hI, hf37, hw36⟩ := hw36
            obtain ⟨hc38, hw36⟩ := hw36
            have r_A35_0_4 : (0 : Int) ≤ (A35 0 4) ∧ (A35 0 4) ≤ 1600 := hI 0 4
            have r_A35_0_8 : (0 : Int) ≤ (A35 0 8) ∧ (A35 0 8) ≤ 5 := hI 0 8
            refine lv_goto (tgt := 108) hx hb (dk_at dkX12_statement_2 4 rfl) (by decide) ?_
            exact J108_5 _ _ _ _ (by exact Hd.mk (fun h0 => ⟨hc38, by omega⟩)) (CI.fr hcCI hf37 rfl rfl) (WI.fr hcWI hf37 rfl rfl) (fun uq hq => (u_r_X12_statement ⟨z1, ghw3, (Or.inl ⟨c4, ⟨z6, ghw8, (Or.inl ⟨c9, ⟨z10, ghw12, (Or.inl ⟨c13, ⟨z14, ghw16, (Or.inl ⟨c17, ⟨z18, ghw20, (Or.inr ⟨c21, ⟨A35, ghw36, hq⟩⟩)⟩⟩)⟩⟩)⟩⟩)⟩⟩)⟩)) hI (fr.trans (fr.rf) hf37 rfl rfl) hP hS (lv_sub hl [0] rfl)
        · have c17 : ¬ z14 = 0 := mt (i_eq0 (rb rz14 (by decide) (by decide))).mpr c17
          have hw16b := hw16.out.mp (by omega)
          refine lv_aload_n hx hb (dk_at dkX12_statement_1 11 rfl) rfl (lv_at hl 0 rfl) ?_
          have r_A_0_4 : (0 : Int) ≤ (A 0 4) ∧ (A 0 4) ≤ 1600 := hI 0 4
          have r_A_0_5 : (0 : Int) ≤ (A 0 5) ∧ (A 0 5) ≤ 1600 := hI 0 5
          refine x_callv (As := []) (rest := []) ⟨hx, hb, hml, hown, hts⟩ (mb_X12_key l dC dI cB cI cJ cZ cQ q _ hI hp0) (cwV 0 hts (goodV wlq_3_39 wlq_3_40 wlq_3_41 wlq_0_8 wlq_2_57) rfl rfl rfl (by decide +kernel) ⟨Nat.le_of_ble_eq_true rfl, Nat.le_of_ble_eq_true rfl⟩) hK hDD hA0 hP hS 0 12 wm0 rfl rfl hl.1 (Nat.le_of_ble_eq_true rfl) (dk_at dkX12_statement_1 12 rfl) (fun A39 H locs hw40 hP hS => ?_)
          have ghw40 : q_X12_key A A39 := hw40
          obtain ⟨_, hI, hf41, hw40⟩ := hw40
          obtain ⟨hc42, hw40⟩ := hw40
          have r_A39_0_4 : (0 : Int) ≤ (A39 0 4) ∧ (A39 0 4) ≤ 1600 := hI 0 4
          have r_A39_0_8 : (0 : Int) ≤ (A39 0 8) ∧ (A39 0 8) ≤ 5 := hI 0 8
          refine lv_goto (tgt := 108) hx hb (dk_at dkX12_statement_1 13 rfl) (by decide) ?_
          exact J108_5 _ _ _ _ (by exact Hd.mk (fun h0 => ⟨hc42, by omega⟩)) (CI.fr hcCI hf41 rfl rfl) (WI.fr hcWI hf41 rfl rfl) (fun uq hq => (u_r_X12_statement ⟨z1, ghw3, (Or.inl ⟨c4, ⟨z6, ghw8, (Or.inl ⟨c9, ⟨z10, ghw12, (Or.inl ⟨c13, ⟨z14, ghw16, (Or.inr ⟨c17, ⟨A39, ghw40, hq⟩⟩)⟩⟩)⟩⟩)⟩⟩)⟩)) hI (fr.trans (fr.rf) hf41 rfl rfl) hP hS (lv_sub hl [0] rfl)
      · have c13 : ¬ z10 = 0 := mt (i_eq0 (rb rz10 (by decide) (by decide))).mpr c13
        have hw12b := hw12.out.mp (by omega)
        refine lv_aload_n hx hb (dk_at dkX12_statement_1 3 rfl) rfl (lv_at hl 0 rfl) ?_
        refine lv_iconst (v := iI 1) hx hb (dk_at dkX12_statement_1 4 rfl) (by decide +kernel) ?_
        have r_A_0_4 : (0 : Int) ≤ (A 0 4) ∧ (A 0 4) ≤ 1600 := hI 0 4
        have r_A_0_5 : (0 : Int) ≤ (A 0 5) ∧ (A 0 5) ≤ 1600 := hI 0 5
        refine x_callv (As := [.int (iI 1)]) (rest := []) ⟨hx, hb, hml, hown, hts⟩ (mb_X12_door l dC dI cB cI cJ cZ cQ q _ 1 hI ⟨by decide, by decide⟩ hp0) (cwV 1 hts (goodV wlq_3_36 wlq_3_37 wlq_3_38 wlq_0_8 wlq_2_38) rfl rfl rfl (by decide +kernel) ⟨Nat.le_of_ble_eq_true rfl, Nat.le_of_ble_eq_true rfl⟩) hK hDD hA0 hP hS 0 12 wm0 rfl rfl hl.1 (Nat.le_of_ble_eq_true rfl) (dk_at dkX12_statement_1 5 rfl) (fun A43 H locs hw44 hP hS => ?_)
        have ghw44 : q_X12_door 1 A A43 := hw44
        obtain ⟨_, hI, hf45, hw44⟩ := hw44
        obtain ⟨hc46, hw44⟩ := hw44
        have r_A43_0_4 : (0 : Int) ≤ (A43 0 4) ∧ (A43 0 4) ≤ 1600 := hI 0 4
        have r_A43_0_8 : (0 : Int) ≤ (A43 0 8) ∧ (A43 0 8) ≤ 5 := hI 0 8
        refine lv_goto (tgt := 108) hx hb (dk_at dkX12_statement_1 6 rfl) (by decide) ?_
        exact J108_5 _ _ _ _ (by exact Hd.mk (fun h0 => ⟨hc46, by omega⟩)) (CI.fr hcCI hf45 rfl rfl) (WI.fr hcWI hf45 rfl rfl) (fun uq hq => (u_r_X12_statement ⟨z1, ghw3, (Or.inl ⟨c4, ⟨z6, ghw8, (Or.inl ⟨c9, ⟨z10, ghw12, (Or.inr ⟨c13, ⟨A43, ghw44, hq⟩⟩)⟩⟩)⟩⟩)⟩)) hI (fr.trans (fr.rf) hf45 rfl rfl) hP hS (lv_sub hl [0] rfl)
    · have c9 : ¬ z6 = 0 := mt (i_eq0 (rb rz6 (by decide) (by decide))).mpr c9
      have hw8b := hw8.out.mp (by omega)
      refine lv_aload_n hx hb (dk_at dkX12_statement_0 11 rfl) rfl (lv_at hl 0 rfl) ?_
      refine lv_iconst (v := iI 0) hx hb (dk_at dkX12_statement_0 12 rfl) (by decide +kernel) ?_
      have r_A_0_4 : (0 : Int) ≤ (A 0 4) ∧ (A 0 4) ≤ 1600 := hI 0 4
      have r_A_0_5 : (0 : Int) ≤ (A 0 5) ∧ (A 0 5) ≤ 1600 := hI 0 5
      refine x_callv (As := [.int (iI 0)]) (rest := []) ⟨hx, hb, hml, hown, hts⟩ (mb_X12_door l dC dI cB cI cJ cZ cQ q _ 0 hI ⟨by decide, by decide⟩ hp0) (cwV 1 hts (goodV wlq_3_36 wlq_3_37 wlq_3_38 wlq_0_8 wlq_2_38) rfl rfl rfl (by decide +kernel) ⟨Nat.le_of_ble_eq_true rfl, Nat.le_of_ble_eq_true rfl⟩) hK hDD hA0 hP hS 0 12 wm0 rfl rfl hl.1 (Nat.le_of_ble_eq_true rfl) (dk_at dkX12_statement_0 13 rfl) (fun A47 H locs hw48 hP hS => ?_)
      have ghw48 : q_X12_door 0 A A47 := hw48
      obtain ⟨_, hI, hf49, hw48⟩ := hw48
      obtain ⟨hc50, hw48⟩ := hw48
      have r_A47_0_4 : (0 : Int) ≤ (A47 0 4) ∧ (A47 0 4) ≤ 1600 := hI 0 4
      have r_A47_0_8 : (0 : Int) ≤ (A47 0 8) ∧ (A47 0 8) ≤ 5 := hI 0 8
      refine lv_goto (tgt := 108) hx hb (dk_at dkX12_statement_0 14 rfl) (by decide) ?_
      exact J108_5 _ _ _ _ (by exact Hd.mk (fun h0 => ⟨hc50, by omega⟩)) (CI.fr hcCI hf49 rfl rfl) (WI.fr hcWI hf49 rfl rfl) (fun uq hq => (u_r_X12_statement ⟨z1, ghw3, (Or.inl ⟨c4, ⟨z6, ghw8, (Or.inr ⟨c9, ⟨A47, ghw48, hq⟩⟩)⟩⟩)⟩)) hI (fr.trans (fr.rf) hf49 rfl rfl) hP hS (lv_sub hl [0] rfl)
  · have c4 : ¬ z1 = 0 := mt (i_eq0 (rb rz1 (by decide) (by decide))).mpr c4
    have hw3b := hw3.out.mp (by omega)
    refine lv_aload_n hx hb (dk_at dkX12_statement_0 4 rfl) rfl (lv_at hl 0 rfl) ?_
    have r_A_0_4 : (0 : Int) ≤ (A 0 4) ∧ (A 0 4) ≤ 1600 := hI 0 4
    have r_A_0_5 : (0 : Int) ≤ (A 0 5) ∧ (A 0 5) ≤ 1600 := hI 0 5
    refine x_callv (As := []) (rest := []) ⟨hx, hb, hml, hown, hts⟩ (mb_X12_place l dC dI cB cI cJ cZ cQ q _ hI hp0) (cwV 0 hts (goodV wlq_3_33 wlq_3_34 wlq_3_35 wlq_0_8 wlq_2_31) rfl rfl rfl (by decide +kernel) ⟨Nat.le_of_ble_eq_true rfl, Nat.le_of_ble_eq_true rfl⟩) hK hDD hA0 hP hS 0 12 wm0 rfl rfl hl.1 (Nat.le_of_ble_eq_true rfl) (dk_at dkX12_statement_0 5 rfl) (fun A51 H locs hw52 hP hS => ?_)
    have ghw52 : q_X12_place A A51 := hw52
    obtain ⟨_, hI, hf53, hw52⟩ := hw52
    obtain ⟨hc54, hw52⟩ := hw52
    have r_A51_0_4 : (0 : Int) ≤ (A51 0 4) ∧ (A51 0 4) ≤ 1600 := hI 0 4
    have r_A51_0_8 : (0 : Int) ≤ (A51 0 8) ∧ (A51 0 8) ≤ 5 := hI 0 8
    refine lv_goto (tgt := 108) hx hb (dk_at dkX12_statement_0 6 rfl) (by decide) ?_
    exact J108_5 _ _ _ _ (by exact Hd.mk (fun h0 => ⟨hc54, by omega⟩)) (CI.fr hcCI hf53 rfl rfl) (WI.fr hcWI hf53 rfl rfl) (fun uq hq => (u_r_X12_statement ⟨z1, ghw3, (Or.inr ⟨c4, ⟨A51, ghw52, hq⟩⟩)⟩)) hI (fr.trans (fr.rf) hf53 rfl rfl) hP hS (lv_sub hl [0] rfl)
theorem dkX12_town_0 : dkq cX12_town [(0, .aload_n 0, 1), (1, .aload_n 0, 1), (2, .getfield 13, 3), (5, .putfield 17, 3), (8, .aload_n 0, 1), (9, .iconst 0, 1), (10, .putfield 13, 3), (13, .aload_n 0, 1), (14, .iconst 0, 1), (15, .putfield 26, 3), (18, .aload_n 0, 1), (19, .iconst 0, 1), (20, .putfield 36, 3), (23, .aload_n 0, 1), (24, .iconst (-1), 1), (25, .putfield 39, 3)] = true := by decide +kernel
theorem dkX12_town_1 : dkq cX12_town [(28, .aload_n 0, 1), (29, .iconst 1, 1), (30, .aload_n 0, 1), (31, .getfield 48, 3), (34, .isub, 1), (35, .putfield 155, 3), (38, .aload_n 0, 1), (39, .getfield 51, 3), (42, .aload_n 0, 1), (43, .getfield 155, 3), (46, .iconst 0, 1), (47, .iastore, 1), (48, .aload_n 0, 1), (49, .getfield 58, 3), (52, .aload_n 0, 1), (53, .getfield 155, 3)] = true := by decide +kernel
theorem dkX12_town_2 : dkq cX12_town [(56, .iconst 0, 1), (57, .iastore, 1), (58, .aload_n 0, 1), (59, .getfield 80, 3), (62, .aload_n 0, 1), (63, .getfield 155, 3), (66, .iconst 0, 1), (67, .iastore, 1), (68, .aload_n 0, 1), (69, .getfield 95, 3), (72, .aload_n 0, 1), (73, .getfield 155, 3), (76, .iconst 0, 1), (77, .iastore, 1), (78, .aload_n 0, 1), (79, .getfield 104, 3)] = true := by decide +kernel
theorem dkX12_town_3 : dkq cX12_town [(82, .aload_n 0, 1), (83, .getfield 155, 3), (86, .iconst 0, 1), (87, .iastore, 1), (88, .aload_n 0, 1), (89, .getfield 113, 3), (92, .aload_n 0, 1), (93, .getfield 155, 3), (96, .iconst 0, 1), (97, .iastore, 1), (98, .aload_n 0, 1), (99, .getfield 122, 3), (102, .aload_n 0, 1), (103, .getfield 155, 3), (106, .iconst 0, 1), (107, .iastore, 1)] = true := by decide +kernel
theorem dkX12_town_4 : dkq cX12_town [(108, .aload_n 0, 1), (109, .getfield 134, 3), (112, .aload_n 0, 1), (113, .getfield 155, 3), (116, .iconst 0, 1), (117, .iastore, 1), (118, .aload_n 0, 1), (119, .iconst 0, 1), (120, .putfield 152, 3), (123, .iconst 0, 1), (124, .istore_n 1, 1), (125, .aload_n 0, 1), (126, .invokevirtual 293, 3), (129, .aload_n 0, 1), (130, .getfield 36, 3), (133, .ifCond .ne 20, 3)] = true := by decide +kernel
theorem dkX12_town_5 : dkq cX12_town [(136, .aload_n 0, 1), (137, .getfield 20, 3), (140, .ifCond .eq 13, 3), (143, .aload_n 0, 1), (144, .invokevirtual 465, 3), (147, .iinc 1 1, 3), (150, .goto (-21), 3), (153, .aload_n 0, 1), (154, .aload_n 0, 1), (155, .getfield 36, 3), (158, .putfield 42, 3), (161, .aload_n 0, 1), (162, .aload_n 0, 1), (163, .getfield 39, 3), (166, .putfield 45, 3), (169, .aload_n 0, 1)] = true := by decide +kernel
theorem dkX12_town_6 : dkq cX12_town [(170, .getfield 36, 3), (173, .ifCond .le 9, 3), (176, .aload_n 0, 1), (177, .iconst 1, 1), (178, .invokevirtual 271, 3), (181, .ireturn, 1), (182, .aload_n 0, 1), (183, .aload_n 0, 1), (184, .getfield 155, 3), (187, .putfield 48, 3), (190, .aload_n 0, 1), (191, .iconst 0, 1), (192, .putfield 241, 3), (195, .iload_n 1, 1), (196, .ireturn, 1)] = true := by decide +kernel
