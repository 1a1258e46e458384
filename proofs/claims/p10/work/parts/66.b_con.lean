abbrev tr_d_X12_door_1 (A : St) (u : St) (z4 : Int) : Prop := ((0 ≤ z4 ∧ z4 ≤ 1) ∧ (∃ z8 : Int, ∃ A9 : St, q_X12_counts z4 A z8 A9 ∧ (((¬ z8 = 0) ∧ (∃ z14 : Int, z14 = A9 4 ((A 0 47)).toNat ∧ (∃ z15 : Int, ∃ A16 : St, q_X12_fresh A9 z15 A16 ∧ (∃ A20 : St, A20 = (stA A16 5 (10 * (A 0 47) + z14).toNat z15) ∧ (∃ z22 : Int, ∃ A23 : St, q_X12_asked_0 0 A20 z22 A23 ∧ (∃ A27 : St, A27 = (stA A23 6 (10 * (A 0 47) + z14).toNat z22) ∧ (∃ z29 : Int, z29 = A27 6 (10 * (A 0 47) + z14).toNat ∧ (∃ A30 : St, q_X12_bars 0 z29 A27 A30 ∧ (∃ z34 : Int, ∃ A35 : St, q_X12_asked_0 0 A30 z34 A35 ∧ (∃ A39 : St, A39 = (stA (stA A35 7 (10 * (A 0 47) + z14).toNat z34) 8 (10 * (A 0 47) + z14).toNat 0) ∧ (∃ z41 : Int, ∃ A42 : St, q_X12_number 1 99 A39 z41 A42 ∧ (((¬ (A42 0 8) = 0) ∧ (∃ A47 : St, A47 = (stA (stA A42 9 (10 * (A 0 47) + z14).toNat z41) 10 (10 * (A 0 47) + z14).toNat 0) ∧ (u = A47))) ∨ (((A42 0 8) = 0) ∧ (∃ z48 : Int, z48 = (stA (stA A42 9 (10 * (A 0 47) + z14).toNat z41) 10 (10 * (A 0 47) + z14).toNat 0) 4 ((A 0 47)).toNat ∧ (∃ A49 : St, A49 = (stA (stA (stA A42 9 (10 * (A 0 47) + z14).toNat z41) 10 (10 * (A 0 47) + z14).toNat 0) 4 ((A 0 47)).toNat (z48 + 1)) ∧ (u = A49)))))))))))))))) ∨ ((z8 = 0) ∧ (u = A9)))))
def d_X12_door_1 (A : St) (u : St) (z4 : Int) : Prop := tr_d_X12_door_1 A u z4
theorem u_d_X12_door_1 {A : St} {u : St} {z4 : Int} (h : tr_d_X12_door_1 A u z4) : d_X12_door_1 A u z4 := h
abbrev tr_d_X12_door_2 (A : St) (u : St) (z53 : Int) : Prop := ((0 ≤ z53 ∧ z53 ≤ 1) ∧ (∃ z57 : Int, ∃ A58 : St, q_X12_counts z53 A z57 A58 ∧ (((¬ z57 = 0) ∧ (∃ z63 : Int, z63 = A58 4 ((A 0 47)).toNat ∧ (∃ z64 : Int, ∃ A65 : St, q_X12_fresh A58 z64 A65 ∧ (∃ A69 : St, A69 = (stA A65 5 (10 * (A 0 47) + z63).toNat z64) ∧ (∃ A71 : St, q_X12_must_ 24948 A69 A71 ∧ (∃ z75 : Int, ∃ A76 : St, q_X12_asked_0 0 A71 z75 A76 ∧ (∃ A80 : St, A80 = (stA A76 6 (10 * (A 0 47) + z63).toNat z75) ∧ (∃ z83 : Int, z83 = A80 6 (10 * (A 0 47) + z63).toNat ∧ (∃ A84 : St, A84 = (stA (stA A80 7 (10 * (A 0 47) + z63).toNat z83) 8 (10 * (A 0 47) + z63).toNat 1) ∧ (((¬ (A76 0 8) = 0) ∧ (∃ A87 : St, A87 = (stA (stA A84 9 (10 * (A 0 47) + z63).toNat 0) 10 (10 * (A 0 47) + z63).toNat 0) ∧ (u = A87))) ∨ (((A76 0 8) = 0) ∧ (∃ z88 : Int, z88 = (stA (stA A84 9 (10 * (A 0 47) + z63).toNat 0) 10 (10 * (A 0 47) + z63).toNat 0) 4 ((A 0 47)).toNat ∧ (∃ A89 : St, A89 = (stA (stA (stA A84 9 (10 * (A 0 47) + z63).toNat 0) 10 (10 * (A 0 47) + z63).toNat 0) 4 ((A 0 47)).toNat (z88 + 1)) ∧ (u = A89)))))))))))))) ∨ ((z57 = 0) ∧ (u = A58)))))
def d_X12_door_2 (A : St) (u : St) (z53 : Int) : Prop := tr_d_X12_door_2 A u z53
theorem u_d_X12_door_2 {A : St} {u : St} {z53 : Int} (h : tr_d_X12_door_2 A u z53) : d_X12_door_2 A u z53 := h
abbrev tr_r_X12_door (x1 : Int) (A : St) (u : St) : Prop := (((x1 = 0) ∧ (∃ z1 : Int, z1 = A 4 ((A 0 47)).toNat ∧ (((¬ z1 = 10) ∧ (d_X12_door_1 A u 0)) ∨ ((z1 = 10) ∧ (d_X12_door_1 A u 1))))) ∨ ((x1 = 1) ∧ (∃ z50 : Int, z50 = A 4 ((A 0 47)).toNat ∧ (((¬ z50 = 10) ∧ (d_X12_door_2 A u 0)) ∨ ((z50 = 10) ∧ (d_X12_door_2 A u 1))))))
def r_X12_door (x1 : Int) (A : St) (u : St) : Prop := tr_r_X12_door x1 A u
theorem u_r_X12_door {x1 : Int} {A : St} {u : St} (h : tr_r_X12_door x1 A u) : r_X12_door x1 A u := h
def q_X12_door (x1 : Int) (A : St) (u : St) : Prop := r_X12_door x1 A u ∧ IM u ∧ fr [4, 5, 6, 7, 8, 9, 10] [3, 4, 5, 6, 7, 8, 9] A u ∧ CB u ∧ ((u 0 8 = 0 → A 0 5 ≤ u 0 4) ∧ A 0 4 ≤ u 0 4)
def ws_mb_X12_door : List Cond := .code yX12_door cX12_door 3 none :: WX
set_option maxHeartbeats 4000000 in
set_option maxRecDepth 100000 in
theorem mb_X12_door (l : Launch) (dC : Nat → ClassId) (dI : Nat → Nat → Nat) (cB cI cJ cZ cQ : ClassId) (q : Nat → Nat) (A : St) (x1 : Int) (hI : IM A) (hx1 : (0 : Int) ≤ x1 ∧ x1 ≤ 1) (hcCB : CB A) : XMv l yX12_door ws_mb_X12_door ({ frames := 3, cells := 0, slots := 0, locals := 70 } : Room) (dC, dI) (tyA cB cI cJ cZ cQ) (WM cI cJ cZ q) A [.ref (q 0), .int (iI x1)] (fun u => r_X12_door x1 A u ∧ IM u ∧ fr [4, 5, 6, 7, 8, 9, 10] [3, 4, 5, 6, 7, 8, 9] A u ∧ CB u ∧ ((u 0 8 = 0 → A 0 5 ≤ u 0 4) ∧ A 0 4 ≤ u 0 4)) := by
  refine x_metv (cc := cX12_door) (maxL := 3) WM_adr (by decide +kernel) rfl (Nat.le_of_ble_eq_true rfl) (fun p e s m below meth c Q AS ls hx hb hml hown hts hK hDD hA0 hP hS hl RET => ?_)
  have hown : s.vm.findClass RX12 = some m.cls := hown
  have hl : lv_has ls 3 [(0, .ref (q 0)), (1, .int (iI x1))] := hl
  have hiX12 : ∀ w ∈ u_ws RX12 TX12 85, w ∈ ws_mb_X12_door := fun w h => List.mem_cons_of_mem _ (wx_lay w h)
  obtain ⟨H, hHe⟩ : ∃ H : Heap, H = s.heap := ⟨_, rfl⟩
  rw [← hHe] at hP
  have hS : va_S AS s.heap H [] := by rw [hHe]; exact hS
  suffices hgo : ∀ locs : List Loc, va_S AS s.heap H locs → W p l e (headSpec ws_mb_X12_door ({ frames := 3, cells := 0, slots := 0, locals := 70 } : Room)).room s m [.ref (q 0), .int (iI x1)].toArray below meth c H locs 0 0 Q (F0 m 0 ls []) by
    have := hgo [] hS
    rw [hHe] at this
    exact this
  clear hS hHe
  intro locs hS
  have hle := CB.le hcCB
  rcases (show x1 = 0 ∨ x1 = 1 by omega) with rfl | rfl
  · have hl : lv_has ls 3 [(0, .ref (q 0)), (1, .int (iI 0))] := hl
    refine lv_aload_n hx hb (dk_at dkX12_door_0 0 rfl) rfl (lv_at hl 0 rfl) ?_
    refine lv_aload_n hx hb (dk_at dkX12_door_0 1 rfl) rfl (lv_at hl 0 rfl) ?_
    refine va_get (D := (dC, dI)) (ci := 12) (v := .ref (q 4)) (C := RX12) (T := TX12) (N := 85) hx hb hts hiX12 hown hK hP 0 wm0 rfl 15 (by decide) (hts _ (List.mem_cons_of_mem _ (wl_in_1 _ (List.mem_of_getElem? (i := 13) rfl)))) (fun _ h9 => h9) rfl (dk_at dkX12_door_0 2 rfl) ?_
    refine lv_aload_n hx hb (dk_at dkX12_door_0 3 rfl) rfl (lv_at hl 0 rfl) ?_
    refine va_get (D := (dC, dI)) (ci := 12) (v := .int (iI (A 0 47))) (C := RX12) (T := TX12) (N := 85) hx hb hts hiX12 hown hK hP 0 wm0 rfl 47 (by decide) (hts _ (List.mem_cons_of_mem _ (wl_in_1 _ (List.mem_of_getElem? (i := 12) rfl)))) (fun _ h9 => h9) rfl (dk_at dkX12_door_0 4 rfl) ?_
    have r_A_0_47 : (0 : Int) ≤ (A 0 47) ∧ (A 0 47) ≤ 1 := hI 0 47
    refine x_iald hx hb hK hP 4 1 wm4 rfl (by omega) (by decide) (dk_at dkX12_door_0 5 rfl) (fun z1 hz1 => ?_)
    have rz1 : (0 : Int) ≤ z1 ∧ z1 ≤ 10 := by rw [hz1]; exact hI 4 _
    have gz1 := Hd.mk hz1
    have hz1 : z1 = A 4 ((A 0 47)).toNat := hz1
    refine lv_bipush (v := iI 10) hx hb (dk_at dkX12_door_0 6 rfl) (by decide +kernel) ?_
    have J20_3 : ∀ (z4 : Int) (H : Heap) (locs : List Loc) (ls : Array Slot), (0 ≤ z4 ∧ z4 ≤ 1) → ((z4 = 0 ∧ ¬ z1 = 10) ∨ (z4 = 1 ∧ z1 = 10)) → (∀ (u : St), (d_X12_door_1 A u z4) → r_X12_door 0 A u) → va_P (dC, dI) vwCl (WM cI cJ cZ q A) H → va_S AS s.heap H locs → lv_has ls 3 [(0, .ref (q 0)), (1, .int (iI 0))] → W p l e (headSpec ws_mb_X12_door ({ frames := 3, cells := 0, slots := 0, locals := 70 } : Room)).room s m [.ref (q 0), .int (iI 0)].toArray below meth c H locs 0 0 Q (F0 m 20 ls [.int (iI z4), .ref (q 0)]) := by
      intro z4 H locs ls f6 f7 hk1 hP hS hl
      have r_A_0_4 : (0 : Int) ≤ (A 0 4) ∧ (A 0 4) ≤ 1600 := hI 0 4
      have r_A_0_5 : (0 : Int) ≤ (A 0 5) ∧ (A 0 5) ≤ 1600 := hI 0 5
      refine x_calli (As := [.int (iI z4)]) (rest := []) ⟨hx, hb, hml, hown, hts⟩ (mb_X12_counts l dC dI cB cI cJ cZ cQ q _ z4 hI f6 hcCB) (cwV 1 hts (goodV (wl_in_2 _ (List.mem_of_getElem? (i := 32) rfl)) (wl_in_2 _ (List.mem_of_getElem? (i := 33) rfl)) (wl_in_2 _ (List.mem_of_getElem? (i := 34) rfl)) (wl_in_0 _ (List.mem_of_getElem? (i := 8) rfl)) (wl_in_2 _ (List.mem_of_getElem? (i := 20) rfl))) rfl rfl rfl (by decide +kernel) ⟨Nat.le_of_ble_eq_true rfl, Nat.le_of_ble_eq_true rfl⟩) hK hDD hA0 hP hS 0 12 wm0 rfl rfl hl.1 (Nat.le_of_ble_eq_true rfl) (dk_at dkX12_door_0 11 rfl) (fun z8 A9 H locs hw10 hP hS => ?_)
      have ghw10 : q_X12_counts z4 A z8 A9 := hw10
      obtain ⟨_, hI, hf11, hw10⟩ := hw10
      obtain ⟨hc12, hw10⟩ := hw10
      have r_A9_0_4 : (0 : Int) ≤ (A9 0 4) ∧ (A9 0 4) ≤ 1600 := hI 0 4
      have r_A9_0_8 : (0 : Int) ≤ (A9 0 8) ∧ (A9 0 8) ≤ 5 := hI 0 8
      have rz8 : 0 ≤ z8 ∧ z8 ≤ 1 := hw10.1
      refine lv_if_ne (tgt := 27) hx hb (dk_at dkX12_door_0 12 rfl) (by decide) (fun c13 => ?_) (fun c13 => ?_)
      · have c13 : ¬ z8 = 0 := mt (i_eq0 (rb rz8 (by decide) (by decide))).mpr c13
        refine lv_bipush (v := iI 10) hx hb (dk_at dkX12_door_0 14 rfl) (by decide +kernel) ?_
        refine lv_aload_n hx hb (dk_at dkX12_door_0 15 rfl) rfl (lv_at hl 0 rfl) ?_
        have e_A9_47 : A9 0 47 = (A 0 47) := (hf11.2 47 rfl)
        refine va_get (D := (dC, dI)) (ci := 12) (v := .int (iI (A9 0 47))) (C := RX12) (T := TX12) (N := 85) hx hb hts hiX12 hown hK hP 0 wm0 rfl 47 (by decide) (hts _ (List.mem_cons_of_mem _ (wl_in_1 _ (List.mem_of_getElem? (i := 12) rfl)))) (fun _ h9 => h9) rfl (dk_at dkX12_door_1 0 rfl) ?_
        refine tp_i (y := iI (A 0 47)) (congrArg iI e_A9_47) ?_
        refine x_mulv (v := 10 * (A 0 47)) hx hb (dk_at dkX12_door_1 1 rfl) (by omega) ?_
        refine lv_aload_n hx hb (dk_at dkX12_door_1 2 rfl) rfl (lv_at hl 0 rfl) ?_
        refine va_get (D := (dC, dI)) (ci := 12) (v := .ref (q 4)) (C := RX12) (T := TX12) (N := 85) hx hb hts hiX12 hown hK hP 0 wm0 rfl 15 (by decide) (hts _ (List.mem_cons_of_mem _ (wl_in_1 _ (List.mem_of_getElem? (i := 13) rfl)))) (fun _ h9 => h9) rfl (dk_at dkX12_door_1 3 rfl) ?_
        refine lv_aload_n hx hb (dk_at dkX12_door_1 4 rfl) rfl (lv_at hl 0 rfl) ?_
        refine va_get (D := (dC, dI)) (ci := 12) (v := .int (iI (A9 0 47))) (C := RX12) (T := TX12) (N := 85) hx hb hts hiX12 hown hK hP 0 wm0 rfl 47 (by decide) (hts _ (List.mem_cons_of_mem _ (wl_in_1 _ (List.mem_of_getElem? (i := 12) rfl)))) (fun _ h9 => h9) rfl (dk_at dkX12_door_1 5 rfl) ?_
        refine tp_i (y := iI (A 0 47)) (congrArg iI e_A9_47) ?_
        have a_A9_4 : A9 4 = A 4 := (hf11.1 4 (by decide) rfl)
        refine x_iald hx hb hK hP 4 1 wm4 rfl (by omega) (by decide) (dk_at dkX12_door_1 6 rfl) (fun z14 hz14 => ?_)
        have rz14 : (0 : Int) ≤ z14 ∧ z14 ≤ 10 := by rw [hz14]; exact hI 4 _
        have gz14 := Hd.mk hz14
        have hz14 : z14 = A 4 ((A 0 47)).toNat := hz14.trans (congrFun a_A9_4 _)
        have ez14 : z14 = z1 := hz14.trans hz1.symm
        refine x_addv (v := 10 * (A 0 47) + z14) hx hb (dk_at dkX12_door_1 7 rfl) (by omega) ?_
        refine lv_istore_n (lv' := [(2, .int (iI (10 * (A 0 47) + z14))), (0, .ref (q 0)), (1, .int (iI 0))]) hx hb (dk_at dkX12_door_1 8 rfl) rfl hl (by decide) rfl (fun ls hl => ?_)
        refine lv_aload_n hx hb (dk_at dkX12_door_1 9 rfl) rfl (lv_at hl 1 rfl) ?_
        refine va_get (D := (dC, dI)) (ci := 12) (v := .ref (q 5)) (C := RX12) (T := TX12) (N := 85) hx hb hts hiX12 hown hK hP 0 wm0 rfl 16 (by decide) (hts _ (List.mem_cons_of_mem _ (wl_in_1 _ (List.mem_of_getElem? (i := 22) rfl)))) (fun _ h9 => h9) rfl (dk_at dkX12_door_1 10 rfl) ?_
        refine lv_iload_n hx hb (dk_at dkX12_door_1 11 rfl) rfl (lv_at hl 0 rfl) ?_
        refine lv_aload_n hx hb (dk_at dkX12_door_1 12 rfl) rfl (lv_at hl 1 rfl) ?_
        refine x_calll (As := []) (rest := [.int (iI (10 * (A 0 47) + z14)), .ref (q 5)]) ⟨hx, hb, hml, hown, hts⟩ (mb_X12_fresh l dC dI cB cI cJ cZ cQ q _ hI hc12) (cwV 0 hts (goodV (wl_in_2 _ (List.mem_of_getElem? (i := 35) rfl)) (wl_in_2 _ (List.mem_of_getElem? (i := 36) rfl)) (wl_in_2 _ (List.mem_of_getElem? (i := 37) rfl)) (wl_in_0 _ (List.mem_of_getElem? (i := 8) rfl)) (wl_in_2 _ (List.mem_of_getElem? (i := 22) rfl))) rfl rfl rfl (by decide +kernel) ⟨Nat.le_of_ble_eq_true rfl, Nat.le_of_ble_eq_true rfl⟩) hK hDD hA0 hP hS 0 12 wm0 rfl rfl hl.1 (Nat.le_of_ble_eq_true rfl) (dk_at dkX12_door_1 13 rfl) (fun z15 A16 H locs hw17 hP hS => ?_)
        have ghw17 : q_X12_fresh A9 z15 A16 := hw17
        obtain ⟨_, hI, hf18, hw17⟩ := hw17
        obtain ⟨hc19, hw17⟩ := hw17
        have r_A16_0_4 : (0 : Int) ≤ (A16 0 4) ∧ (A16 0 4) ≤ 1600 := hI 0 4
        refine x_last hx hb hK hP hDD hS 5 2 wm5 rfl (by omega) (by decide) (dk_at dkX12_door_1 14 rfl) ws5 (fun H locs hP hS => ?_)
        have hI := hI.st (j := 5) (i := (10 * (A 0 47) + z14).toNat) (v := z15) (show (-9223372036854775808 : Int) ≤ z15 ∧ z15 ≤ 9223372036854775807 from (by omega))
        refine lv_iload_n hx hb (dk_at dkX12_door_1 15 rfl) rfl (lv_at hl 2 rfl) ?_
        obtain ⟨A20, hA20⟩ : ∃ A20 : St, A20 = (stA A16 5 (10 * (A 0 47) + z14).toNat z15) := ⟨_, rfl⟩
        rw [← hA20] at hP hI
        refine lv_if_eq (tgt := 66) hx hb (dk_at dkX12_door_2 0 rfl) (by decide) (fun _ => ?_) (fun c21 => absurd c21 (by decide +kernel))
        refine lv_aload_n hx hb (dk_at dkX12_door_2 4 rfl) rfl (lv_at hl 1 rfl) ?_
        refine va_get (D := (dC, dI)) (ci := 12) (v := .ref (q 6)) (C := RX12) (T := TX12) (N := 85) hx hb hts hiX12 hown hK hP 0 wm0 rfl 17 (by decide) (hts _ (List.mem_cons_of_mem _ (wl_in_2 _ (List.mem_of_getElem? (i := 39) rfl)))) (fun _ h9 => h9) rfl (dk_at dkX12_door_2 5 rfl) ?_
        refine lv_iload_n hx hb (dk_at dkX12_door_2 6 rfl) rfl (lv_at hl 0 rfl) ?_
        refine lv_aload_n hx hb (dk_at dkX12_door_2 7 rfl) rfl (lv_at hl 1 rfl) ?_
        refine lv_iconst (v := iI 0) hx hb (dk_at dkX12_door_2 8 rfl) (by decide +kernel) ?_
        have e_A20_3 : A20 0 3 = (A16 0 3) := by rw [hA20]; exact rfl
        have r_A16_0_3 : (0 : Int) ≤ (A16 0 3) ∧ (A16 0 3) ≤ 3 := by rw [← e_A20_3]; exact hI 0 3
        have e_A20_4 : A20 0 4 = (A16 0 4) := by rw [hA20]; exact rfl
        have e_A20_7 : A20 0 7 = (A16 0 7) := by rw [hA20]; exact rfl
        have r_A16_0_7 : (-9223372036854775808 : Int) ≤ (A16 0 7) ∧ (A16 0 7) ≤ 9223372036854775807 := by rw [← e_A20_7]; exact hI 0 7
        have e_A20_8 : A20 0 8 = (A16 0 8) := by rw [hA20]; exact rfl
        have r_A16_0_8 : (0 : Int) ≤ (A16 0 8) ∧ (A16 0 8) ≤ 5 := by rw [← e_A20_8]; exact hI 0 8
        have e_A16_47 : A16 0 47 = (A 0 47) := (hf18.2 47 rfl).trans e_A9_47
        have e_A20_47 : A20 0 47 = (A 0 47) := by rw [hA20]; exact e_A16_47
        refine x_calli (As := [.int (iI 0)]) (rest := [.int (iI (10 * (A 0 47) + z14)), .ref (q 6)]) ⟨hx, hb, hml, hown, hts⟩ (mb_X12_asked_0 l dC dI cB cI cJ cZ cQ q _ 0 hI ⟨by decide, by decide⟩ (CB.fr hc19 (fr_def hA20 (fr.st (fr.rf (M := [5]) (N := [])) (by decide) rfl)) rfl rfl)) (cwV 1 hts (goodV (wl_in_2 _ (List.mem_of_getElem? (i := 47) rfl)) (wl_in_2 _ (List.mem_of_getElem? (i := 48) rfl)) (wl_in_2 _ (List.mem_of_getElem? (i := 49) rfl)) (wl_in_0 _ (List.mem_of_getElem? (i := 8) rfl)) (wl_in_2 _ (List.mem_of_getElem? (i := 29) rfl))) rfl rfl rfl (by decide +kernel) ⟨Nat.le_of_ble_eq_true rfl, Nat.le_of_ble_eq_true rfl⟩) hK hDD hA0 hP hS 0 12 wm0 rfl rfl hl.1 (Nat.le_of_ble_eq_true rfl) (dk_at dkX12_door_2 9 rfl) (fun z22 A23 H locs hw24 hP hS => ?_)
        have ghw24 : q_X12_asked_0 0 A20 z22 A23 := hw24
        obtain ⟨_, hI, hf25, hw24⟩ := hw24
        obtain ⟨hc26, hw24⟩ := hw24
        have r_A23_0_4 : (0 : Int) ≤ (A23 0 4) ∧ (A23 0 4) ≤ 1600 := hI 0 4
        have r_A23_0_8 : (0 : Int) ≤ (A23 0 8) ∧ (A23 0 8) ≤ 5 := hI 0 8
        refine x_iast hx hb hK hP hDD hS 6 1 wm6 rfl (by omega) (by decide) (dk_at dkX12_door_2 10 rfl) ws6 (fun H locs hP hS => ?_)
        have hI := hI.st (j := 6) (i := (10 * (A 0 47) + z14).toNat) (v := z22) (show (0 : Int) ≤ z22 ∧ z22 ≤ 7 from (by omega))
        refine lv_iload_n hx hb (dk_at dkX12_door_2 11 rfl) rfl (lv_at hl 2 rfl) ?_
        obtain ⟨A27, hA27⟩ : ∃ A27 : St, A27 = (stA A23 6 (10 * (A 0 47) + z14).toNat z22) := ⟨_, rfl⟩
        rw [← hA27] at hP hI
        refine lv_if_ne (tgt := 92) hx hb (dk_at dkX12_door_2 12 rfl) (by decide) (fun c28 => absurd c28 (by decide +kernel)) (fun _ => ?_)
        refine lv_aload_n hx hb (dk_at dkX12_door_2 13 rfl) rfl (lv_at hl 1 rfl) ?_
        refine lv_iconst (v := iI 0) hx hb (dk_at dkX12_door_2 14 rfl) (by decide +kernel) ?_
        refine lv_aload_n hx hb (dk_at dkX12_door_2 15 rfl) rfl (lv_at hl 1 rfl) ?_
        refine va_get (D := (dC, dI)) (ci := 12) (v := .ref (q 6)) (C := RX12) (T := TX12) (N := 85) hx hb hts hiX12 hown hK hP 0 wm0 rfl 17 (by decide) (hts _ (List.mem_cons_of_mem _ (wl_in_2 _ (List.mem_of_getElem? (i := 39) rfl)))) (fun _ h9 => h9) rfl (dk_at dkX12_door_3 0 rfl) ?_
        refine lv_iload_n hx hb (dk_at dkX12_door_3 1 rfl) rfl (lv_at hl 0 rfl) ?_
        refine x_iald hx hb hK hP 6 1 wm6 rfl (by omega) (by decide) (dk_at dkX12_door_3 2 rfl) (fun z29 hz29 => ?_)
        have rz29 : (0 : Int) ≤ z29 ∧ z29 ≤ 7 := by rw [hz29]; exact hI 6 _
        have gz29 := Hd.mk hz29
        clear hz29
        refine x_callv (As := [.int (iI 0), .int (iI z29)]) (rest := []) ⟨hx, hb, hml, hown, hts⟩ (mb_X12_bars l dC dI cB cI cJ cZ cQ q _ 0 z29 hI ⟨by decide, by decide⟩ (rb rz29 (by decide) (by decide))) (cwV 2 hts (goodV (wl_in_2 _ (List.mem_of_getElem? (i := 50) rfl)) (wl_in_2 _ (List.mem_of_getElem? (i := 51) rfl)) (wl_in_2 _ (List.mem_of_getElem? (i := 52) rfl)) (wl_in_0 _ (List.mem_of_getElem? (i := 8) rfl)) (wl_in_2 _ (List.mem_of_getElem? (i := 30) rfl))) rfl rfl rfl (by decide +kernel) ⟨Nat.le_of_ble_eq_true rfl, Nat.le_of_ble_eq_true rfl⟩) hK hDD hA0 hP hS 0 12 wm0 rfl rfl hl.1 (Nat.le_of_ble_eq_true rfl) (dk_at dkX12_door_3 3 rfl) (fun A30 H locs hw31 hP hS => ?_)
        have ghw31 : q_X12_bars 0 z29 A27 A30 := hw31
        obtain ⟨_, hI, hf32, hw31⟩ := hw31
        clear hw31
        refine lv_aload_n hx hb (dk_at dkX12_door_3 4 rfl) rfl (lv_at hl 1 rfl) ?_
        refine va_get (D := (dC, dI)) (ci := 12) (v := .ref (q 7)) (C := RX12) (T := TX12) (N := 85) hx hb hts hiX12 hown hK hP 0 wm0 rfl 18 (by decide) (hts _ (List.mem_cons_of_mem _ (wl_in_2 _ (List.mem_of_getElem? (i := 40) rfl)))) (fun _ h9 => h9) rfl (dk_at dkX12_door_3 5 rfl) ?_
        refine lv_iload_n hx hb (dk_at dkX12_door_3 6 rfl) rfl (lv_at hl 0 rfl) ?_
        refine lv_iload_n hx hb (dk_at dkX12_door_3 7 rfl) rfl (lv_at hl 2 rfl) ?_
        refine lv_if_eq (tgt := 110) hx hb (dk_at dkX12_door_3 8 rfl) (by decide) (fun _ => ?_) (fun c33 => absurd c33 (by decide +kernel))
        refine lv_aload_n hx hb (dk_at dkX12_door_3 14 rfl) rfl (lv_at hl 1 rfl) ?_
        refine lv_iconst (v := iI 0) hx hb (dk_at dkX12_door_3 15 rfl) (by decide +kernel) ?_
        have e_A27_3 : A27 0 3 = (A23 0 3) := by rw [hA27]; exact rfl
        have e_A30_3 : A30 0 3 = (A23 0 3) := (hf32.2 3 rfl).trans e_A27_3
        have r_A23_0_3 : (0 : Int) ≤ (A23 0 3) ∧ (A23 0 3) ≤ 3 := by rw [← e_A30_3]; exact hI 0 3
        have e_A27_4 : A27 0 4 = (A23 0 4) := by rw [hA27]; exact rfl
        have e_A30_4 : A30 0 4 = (A23 0 4) := (hf32.2 4 rfl).trans e_A27_4
        have e_A27_7 : A27 0 7 = (A23 0 7) := by rw [hA27]; exact rfl
        have e_A30_7 : A30 0 7 = (A23 0 7) := (hf32.2 7 rfl).trans e_A27_7
        have r_A23_0_7 : (-9223372036854775808 : Int) ≤ (A23 0 7) ∧ (A23 0 7) ≤ 9223372036854775807 := by rw [← e_A30_7]; exact hI 0 7
        have r_A30_0_8 : (0 : Int) ≤ (A30 0 8) ∧ (A30 0 8) ≤ 5 := hI 0 8
        have e_A23_47 : A23 0 47 = (A 0 47) := (hf25.2 47 rfl).trans e_A20_47
        have e_A27_47 : A27 0 47 = (A 0 47) := by rw [hA27]; exact e_A23_47
        have e_A30_47 : A30 0 47 = (A 0 47) := (hf32.2 47 rfl).trans e_A27_47
        refine x_calli (As := [.int (iI 0)]) (rest := [.int (iI (10 * (A 0 47) + z14)), .ref (q 7)]) ⟨hx, hb, hml, hown, hts⟩ (mb_X12_asked_0 l dC dI cB cI cJ cZ cQ q _ 0 hI ⟨by decide, by decide⟩ (CB.fr (CB.fr hc26 (fr_def hA27 (fr.st (fr.rf (M := [6]) (N := [])) (by decide) rfl)) rfl rfl) hf32 rfl rfl)) (cwV 1 hts (goodV (wl_in_2 _ (List.mem_of_getElem? (i := 47) rfl)) (wl_in_2 _ (List.mem_of_getElem? (i := 48) rfl)) (wl_in_2 _ (List.mem_of_getElem? (i := 49) rfl)) (wl_in_0 _ (List.mem_of_getElem? (i := 8) rfl)) (wl_in_2 _ (List.mem_of_getElem? (i := 29) rfl))) rfl rfl rfl (by decide +kernel) ⟨Nat.le_of_ble_eq_true rfl, Nat.le_of_ble_eq_true rfl⟩) hK hDD hA0 hP hS 0 12 wm0 rfl rfl hl.1 (Nat.le_of_ble_eq_true rfl) (dk_at dkX12_door_4 0 rfl) (fun z34 A35 H locs hw36 hP hS => ?_)
        have ghw36 : q_X12_asked_0 0 A30 z34 A35 := hw36
        obtain ⟨_, hI, hf37, hw36⟩ := hw36
        obtain ⟨hc38, hw36⟩ := hw36
        have r_A35_0_4 : (0 : Int) ≤ (A35 0 4) ∧ (A35 0 4) ≤ 1600 := hI 0 4
        have r_A35_0_8 : (0 : Int) ≤ (A35 0 8) ∧ (A35 0 8) ≤ 5 := hI 0 8
        refine x_iast hx hb hK hP hDD hS 7 1 wm7 rfl (by omega) (by decide) (dk_at dkX12_door_4 1 rfl) ws7 (fun H locs hP hS => ?_)
        have hI := hI.st (j := 7) (i := (10 * (A 0 47) + z14).toNat) (v := z34) (show (0 : Int) ≤ z34 ∧ z34 ≤ 7 from (by omega))
        refine lv_aload_n hx hb (dk_at dkX12_door_4 2 rfl) rfl (lv_at hl 1 rfl) ?_
        refine va_get (D := (dC, dI)) (ci := 12) (v := .ref (q 8)) (C := RX12) (T := TX12) (N := 85) hx hb hts hiX12 hown hK hP 0 wm0 rfl 19 (by decide) (hts _ (List.mem_cons_of_mem _ (wl_in_2 _ (List.mem_of_getElem? (i := 41) rfl)))) (fun _ h9 => h9) rfl (dk_at dkX12_door_4 3 rfl) ?_
        refine lv_iload_n hx hb (dk_at dkX12_door_4 4 rfl) rfl (lv_at hl 0 rfl) ?_
        refine lv_iload_n hx hb (dk_at dkX12_door_4 5 rfl) rfl (lv_at hl 2 rfl) ?_
        refine x_zast hx hb hK hP hDD hS 8 3 wm8 rfl (by omega) (by decide) (dk_at dkX12_door_4 6 rfl) (by omega) ws8 (fun H locs hP hS => ?_)
        have hI := hI.st (j := 8) (i := (10 * (A 0 47) + z14).toNat) (v := 0) (show (0 : Int) ≤ 0 ∧ 0 ≤ 1 from (by omega))
        refine lv_aload_n hx hb (dk_at dkX12_door_4 7 rfl) rfl (lv_at hl 1 rfl) ?_
        refine va_get (D := (dC, dI)) (ci := 12) (v := .ref (q 9)) (C := RX12) (T := TX12) (N := 85) hx hb hts hiX12 hown hK hP 0 wm0 rfl 20 (by decide) (hts _ (List.mem_cons_of_mem _ (wl_in_2 _ (List.mem_of_getElem? (i := 42) rfl)))) (fun _ h9 => h9) rfl (dk_at dkX12_door_4 8 rfl) ?_
        refine lv_iload_n hx hb (dk_at dkX12_door_4 9 rfl) rfl (lv_at hl 0 rfl) ?_
        refine lv_iload_n hx hb (dk_at dkX12_door_4 10 rfl) rfl (lv_at hl 2 rfl) ?_
        obtain ⟨A39, hA39⟩ : ∃ A39 : St, A39 = (stA (stA A35 7 (10 * (A 0 47) + z14).toNat z34) 8 (10 * (A 0 47) + z14).toNat 0) := ⟨_, rfl⟩
        rw [← hA39] at hP hI
        refine lv_if_eq (tgt := 136) hx hb (dk_at dkX12_door_4 11 rfl) (by decide) (fun _ => ?_) (fun c40 => absurd c40 (by decide +kernel))
        refine lv_aload_n hx hb (dk_at dkX12_door_4 14 rfl) rfl (lv_at hl 1 rfl) ?_
        refine lv_iconst (v := iI 1) hx hb (dk_at dkX12_door_4 15 rfl) (by decide +kernel) ?_
        refine lv_bipush (v := iI 99) hx hb (dk_at dkX12_door_5 0 rfl) (by decide +kernel) ?_
        have e_A39_4 : A39 0 4 = (A35 0 4) := by rw [hA39]; exact rfl
        refine x_calli (As := [.int (iI 1), .int (iI 99)]) (rest := [.int (iI (10 * (A 0 47) + z14)), .ref (q 9)]) ⟨hx, hb, hml, hown, hts⟩ (mb_X12_number l dC dI cB cI cJ cZ cQ q _ 1 99 hI ⟨by decide, by decide⟩ ⟨by decide, by decide⟩ (CB.fr hc38 (fr_def hA39 (fr.st (fr.st (fr.rf (M := [7, 8]) (N := [])) (by decide) rfl) (by decide) rfl)) rfl rfl)) (cwV 2 hts (goodV (wl_in_2 _ (List.mem_of_getElem? (i := 53) rfl)) (wl_in_2 _ (List.mem_of_getElem? (i := 54) rfl)) (wl_in_2 _ (List.mem_of_getElem? (i := 55) rfl)) (wl_in_0 _ (List.mem_of_getElem? (i := 8) rfl)) (wl_in_1 _ (List.mem_of_getElem? (i := 26) rfl))) rfl rfl rfl (by decide +kernel) ⟨Nat.le_of_ble_eq_true rfl, Nat.le_of_ble_eq_true rfl⟩) hK hDD hA0 hP hS 0 12 wm0 rfl rfl hl.1 (Nat.le_of_ble_eq_true rfl) (dk_at dkX12_door_5 1 rfl) (fun z41 A42 H locs hw43 hP hS => ?_)
        have ghw43 : q_X12_number 1 99 A39 z41 A42 := hw43
        obtain ⟨_, hI, hf44, hw43⟩ := hw43
        obtain ⟨hc45, hw43⟩ := hw43
        have r_A42_0_4 : (0 : Int) ≤ (A42 0 4) ∧ (A42 0 4) ≤ 1600 := hI 0 4
        refine x_iast hx hb hK hP hDD hS 9 1 wm9 rfl (by omega) (by decide) (dk_at dkX12_door_5 2 rfl) ws9 (fun H locs hP hS => ?_)
        have hI := hI.st (j := 9) (i := (10 * (A 0 47) + z14).toNat) (v := z41) (show (-2147483648 : Int) ≤ z41 ∧ z41 ≤ 2147483647 from (by omega))
        refine lv_aload_n hx hb (dk_at dkX12_door_5 3 rfl) rfl (lv_at hl 1 rfl) ?_
        refine va_get (D := (dC, dI)) (ci := 12) (v := .ref (q 10)) (C := RX12) (T := TX12) (N := 85) hx hb hts hiX12 hown hK hP 0 wm0 rfl 21 (by decide) (hts _ (List.mem_cons_of_mem _ (wl_in_2 _ (List.mem_of_getElem? (i := 43) rfl)))) (fun _ h9 => h9) rfl (dk_at dkX12_door_5 4 rfl) ?_
        refine lv_iload_n hx hb (dk_at dkX12_door_5 5 rfl) rfl (lv_at hl 0 rfl) ?_
        refine lv_iconst (v := iI 0) hx hb (dk_at dkX12_door_5 6 rfl) (by decide +kernel) ?_
        refine x_zast hx hb hK hP hDD hS 10 3 wm10 rfl (by omega) (by decide) (dk_at dkX12_door_5 7 rfl) (by omega) ws10 (fun H locs hP hS => ?_)
        have hI := hI.st (j := 10) (i := (10 * (A 0 47) + z14).toNat) (v := 0) (show (0 : Int) ≤ 0 ∧ 0 ≤ 1 from (by omega))
        refine lv_aload_n hx hb (dk_at dkX12_door_5 8 rfl) rfl (lv_at hl 1 rfl) ?_
        refine va_get (D := (dC, dI)) (ci := 12) (v := .int (iI (A42 0 8))) (C := RX12) (T := TX12) (N := 85) hx hb hts hiX12 hown hK hP 0 wm0 rfl 8 (by decide) (hts _ (List.mem_cons_of_mem _ (wl_in_0 _ (List.mem_of_getElem? (i := 16) rfl)))) (fun _ h9 => h9) rfl (dk_at dkX12_door_5 9 rfl) ?_
        have r_A42_0_8 : (0 : Int) ≤ (A42 0 8) ∧ (A42 0 8) ≤ 5 := hI 0 8
        refine lv_if_ne (tgt := 171) hx hb (dk_at dkX12_door_5 10 rfl) (by decide) (fun c46 => ?_) (fun c46 => ?_)
        · have c46 : ¬ (A42 0 8) = 0 := mt (i_eq0 (rb r_A42_0_8 (by decide) (by decide))).mpr c46
          obtain ⟨A47, hA47⟩ : ∃ A47 : St, A47 = (stA (stA A42 9 (10 * (A 0 47) + z14).toNat z41) 10 (10 * (A 0 47) + z14).toNat 0) := ⟨_, rfl⟩
          rw [← hA47] at hP hI
          have e_A47_4 : A47 0 4 = (A42 0 4) := by rw [hA47]; exact rfl
          have e_A47_8 : A47 0 8 = (A42 0 8) := by rw [hA47]; exact rfl
          exact RET _ _ _ _ _ ⟨hk1 _ (u_d_X12_door_1 ⟨f6, ⟨z8, A9, ghw10, (Or.inl ⟨c13, ⟨z14, gz14.out, ⟨z15, A16, ghw17, ⟨A20, hA20, ⟨z22, A23, ghw24, ⟨A27, hA27, ⟨z29, gz29.out, ⟨A30, ghw31, ⟨z34, A35, ghw36, ⟨A39, hA39, ⟨z41, A42, ghw43, (Or.inl ⟨c46, ⟨A47, hA47, rfl⟩⟩)⟩⟩⟩⟩⟩⟩⟩⟩⟩⟩⟩)⟩⟩), hI, fr_def hA47 (fr.st (fr.st (fr.trans (fr_def hA39 (fr.st (fr.st (fr.trans (fr.trans (fr_def hA27 (fr.st (fr.trans (fr_def hA20 (fr.st (fr.trans (fr.trans (fr.rf) hf11 rfl rfl) hf18 rfl rfl) (by decide) rfl)) hf25 rfl rfl) (by decide) rfl)) hf32 rfl rfl) hf37 rfl rfl) (by decide) rfl) (by decide) rfl)) hf44 rfl rfl) (by decide) rfl) (by decide) rfl), (CB.fr hc45 (fr_def hA47 (fr.st (fr.st (fr.rf (M := [9, 10]) (N := [])) (by decide) rfl) (by decide) rfl)) rfl rfl), by omega⟩ hP hS (dk_at dkX12_door_6 4 rfl)
        · have c46 : (A42 0 8) = 0 := (i_eq0 (rb r_A42_0_8 (by decide) (by decide))).mp c46
          refine lv_aload_n hx hb (dk_at dkX12_door_5 11 rfl) rfl (lv_at hl 1 rfl) ?_
          refine va_get (D := (dC, dI)) (ci := 12) (v := .ref (q 4)) (C := RX12) (T := TX12) (N := 85) hx hb hts hiX12 hown hK hP 0 wm0 rfl 15 (by decide) (hts _ (List.mem_cons_of_mem _ (wl_in_1 _ (List.mem_of_getElem? (i := 13) rfl)))) (fun _ h9 => h9) rfl (dk_at dkX12_door_5 12 rfl) ?_
          refine lv_aload_n hx hb (dk_at dkX12_door_5 13 rfl) rfl (lv_at hl 1 rfl) ?_
          have e_A35_47 : A35 0 47 = (A 0 47) := (hf37.2 47 rfl).trans e_A30_47
          have e_A39_47 : A39 0 47 = (A 0 47) := by rw [hA39]; exact e_A35_47
          have e_A42_47 : A42 0 47 = (A 0 47) := (hf44.2 47 rfl).trans e_A39_47
          refine va_get (D := (dC, dI)) (ci := 12) (v := .int (iI (A42 0 47))) (C := RX12) (T := TX12) (N := 85) hx hb hts hiX12 hown hK hP 0 wm0 rfl 47 (by decide) (hts _ (List.mem_cons_of_mem _ (wl_in_1 _ (List.mem_of_getElem? (i := 12) rfl)))) (fun _ h9 => h9) rfl (dk_at dkX12_door_5 14 rfl) ?_
          refine tp_i (y := iI (A 0 47)) (congrArg iI e_A42_47) ?_
          refine lv_dup2_11 hx hb (dk_at dkX12_door_5 15 rfl) rfl rfl ?_
          have a_A16_4 : A16 4 = A 4 := (hf18.1 4 (by decide) rfl).trans a_A9_4
          have a_A20_4 : A20 4 = A 4 := by rw [hA20]; exact a_A16_4
          have a_A23_4 : A23 4 = A 4 := (hf25.1 4 (by decide) rfl).trans a_A20_4
          have a_A27_4 : A27 4 = A 4 := by rw [hA27]; exact a_A23_4
          have a_A30_4 : A30 4 = A 4 := (hf32.1 4 (by decide) rfl).trans a_A27_4
          have a_A35_4 : A35 4 = A 4 := (hf37.1 4 (by decide) rfl).trans a_A30_4
          have a_A39_4 : A39 4 = A 4 := by rw [hA39]; exact a_A35_4
          have a_A42_4 : A42 4 = A 4 := (hf44.1 4 (by decide) rfl).trans a_A39_4
          refine x_iald hx hb hK hP 4 1 wm4 rfl (by omega) (by decide) (dk_at dkX12_door_6 0 rfl) (fun z48 hz48 => ?_)
          have rz48 : (0 : Int) ≤ z48 ∧ z48 ≤ 10 := by rw [hz48]; exact hI 4 _
          have gz48 := Hd.mk hz48
          have hz48 : z48 = A 4 ((A 0 47)).toNat := hz48.trans (congrFun a_A42_4 _)
          have ez48 : z48 = z1 := hz48.trans hz1.symm
          refine lv_iconst (v := iI 1) hx hb (dk_at dkX12_door_6 1 rfl) (by decide +kernel) ?_
          refine x_addv (v := z48 + 1) hx hb (dk_at dkX12_door_6 2 rfl) (by omega) ?_
          refine x_iast hx hb hK hP hDD hS 4 1 wm4 rfl (by omega) (by decide) (dk_at dkX12_door_6 3 rfl) ws4 (fun H locs hP hS => ?_)
          have hI := hI.st (j := 4) (i := ((A 0 47)).toNat) (v := z48 + 1) (show (0 : Int) ≤ z48 + 1 ∧ z48 + 1 ≤ 10 from (by omega))
          obtain ⟨A49, hA49⟩ : ∃ A49 : St, A49 = (stA (stA (stA A42 9 (10 * (A 0 47) + z14).toNat z41) 10 (10 * (A 0 47) + z14).toNat 0) 4 ((A 0 47)).toNat (z48 + 1)) := ⟨_, rfl⟩
          rw [← hA49] at hP hI
          have e_A49_4 : A49 0 4 = (A42 0 4) := by rw [hA49]; exact rfl
          have e_A49_8 : A49 0 8 = (A42 0 8) := by rw [hA49]; exact rfl
          exact RET _ _ _ _ _ ⟨hk1 _ (u_d_X12_door_1 ⟨f6, ⟨z8, A9, ghw10, (Or.inl ⟨c13, ⟨z14, gz14.out, ⟨z15, A16, ghw17, ⟨A20, hA20, ⟨z22, A23, ghw24, ⟨A27, hA27, ⟨z29, gz29.out, ⟨A30, ghw31, ⟨z34, A35, ghw36, ⟨A39, hA39, ⟨z41, A42, ghw43, (Or.inr ⟨c46, ⟨z48, gz48.out, ⟨A49, hA49, rfl⟩⟩⟩)⟩⟩⟩⟩⟩⟩⟩⟩⟩⟩⟩)⟩⟩), hI, fr_def hA49 (fr.st (fr.st (fr.st (fr.trans (fr_def hA39 (fr.st (fr.st (fr.trans (fr.trans (fr_def hA27 (fr.st (fr.trans (fr_def hA20 (fr.st (fr.trans (fr.trans (fr.rf) hf11 rfl rfl) hf18 rfl rfl) (by decide) rfl)) hf25 rfl rfl) (by decide) rfl)) hf32 rfl rfl) hf37 rfl rfl) (by decide) rfl) (by decide) rfl)) hf44 rfl rfl) (by decide) rfl) (by decide) rfl) (by decide) rfl), (CB.fr hc45 (fr_def hA49 (fr.st (fr.st (fr.st (fr.rf (M := [4, 9, 10]) (N := [])) (by decide) rfl) (by decide) rfl) (by decide) rfl)) rfl rfl), by omega⟩ hP hS (dk_at dkX12_door_6 4 rfl)
      · have c13 : z8 = 0 := (i_eq0 (rb rz8 (by decide) (by decide))).mp c13
        exact RET _ _ _ _ _ ⟨hk1 _ (u_d_X12_door_1 ⟨f6, ⟨z8, A9, ghw10, (Or.inr ⟨c13, rfl⟩)⟩⟩), hI, fr.trans (fr.rf) hf11 rfl rfl, hc12, by omega⟩ hP hS (dk_at dkX12_door_0 13 rfl)
    refine lv_icmp_ne (tgt := 19) hx hb (dk_at dkX12_door_0 7 rfl) (by decide) (fun c2 => ?_) (fun c2 => ?_)
    · have c2 : ¬ z1 = 10 := mt (i_eq (rb rz1 (by decide) (by decide)) ⟨by decide, by decide⟩).mpr c2
      refine lv_iconst (v := iI 0) hx hb (dk_at dkX12_door_0 10 rfl) (by decide +kernel) ?_
      exact J20_3 0 _ _ _ (by omega) (by omega) (fun uq hq => (u_r_X12_door (Or.inl ⟨rfl, ⟨z1, gz1.out, (Or.inl ⟨c2, hq⟩)⟩⟩))) hP hS (lv_sub hl [0, 1] rfl)
    · have c2 : z1 = 10 := (i_eq (rb rz1 (by decide) (by decide)) ⟨by decide, by decide⟩).mp c2
      refine lv_iconst (v := iI 1) hx hb (dk_at dkX12_door_0 8 rfl) (by decide +kernel) ?_
      refine lv_goto (tgt := 20) hx hb (dk_at dkX12_door_0 9 rfl) (by decide) ?_
      exact J20_3 1 _ _ _ (by omega) (by omega) (fun uq hq => (u_r_X12_door (Or.inl ⟨rfl, ⟨z1, gz1.out, (Or.inr ⟨c2, hq⟩)⟩⟩))) hP hS (lv_sub hl [0, 1] rfl)
  · have hl : lv_has ls 3 [(0, .ref (q 0)), (1, .int (iI 1))] := hl
    refine lv_aload_n hx hb (dk_at dkX12_door_0 0 rfl) rfl (lv_at hl 0 rfl) ?_
    refine lv_aload_n hx hb (dk_at dkX12_door_0 1 rfl) rfl (lv_at hl 0 rfl) ?_
    refine va_get (D := (dC, dI)) (ci := 12) (v := .ref (q 4)) (C := RX12) (T := TX12) (N := 85) hx hb hts hiX12 hown hK hP 0 wm0 rfl 15 (by decide) (hts _ (List.mem_cons_of_mem _ (wl_in_1 _ (List.mem_of_getElem? (i := 13) rfl)))) (fun _ h9 => h9) rfl (dk_at dkX12_door_0 2 rfl) ?_
    refine lv_aload_n hx hb (dk_at dkX12_door_0 3 rfl) rfl (lv_at hl 0 rfl) ?_
    refine va_get (D := (dC, dI)) (ci := 12) (v := .int (iI (A 0 47))) (C := RX12) (T := TX12) (N := 85) hx hb hts hiX12 hown hK hP 0 wm0 rfl 47 (by decide) (hts _ (List.mem_cons_of_mem _ (wl_in_1 _ (List.mem_of_getElem? (i := 12) rfl)))) (fun _ h9 => h9) rfl (dk_at dkX12_door_0 4 rfl) ?_
    have r_A_0_47 : (0 : Int) ≤ (A 0 47) ∧ (A 0 47) ≤ 1 := hI 0 47
    refine x_iald hx hb hK hP 4 1 wm4 rfl (by omega) (by decide) (dk_at dkX12_door_0 5 rfl) (fun z50 hz50 => ?_)
    have rz50 : (0 : Int) ≤ z50 ∧ z50 ≤ 10 := by rw [hz50]; exact hI 4 _
    have gz50 := Hd.mk hz50
    have hz50 : z50 = A 4 ((A 0 47)).toNat := hz50
    refine lv_bipush (v := iI 10) hx hb (dk_at dkX12_door_0 6 rfl) (by decide +kernel) ?_
    have J20_52 : ∀ (z53 : Int) (H : Heap) (locs : List Loc) (ls : Array Slot), (0 ≤ z53 ∧ z53 ≤ 1) → ((z53 = 0 ∧ ¬ z50 = 10) ∨ (z53 = 1 ∧ z50 = 10)) → (∀ (u : St), (d_X12_door_2 A u z53) → r_X12_door 1 A u) → va_P (dC, dI) vwCl (WM cI cJ cZ q A) H → va_S AS s.heap H locs → lv_has ls 3 [(0, .ref (q 0)), (1, .int (iI 1))] → W p l e (headSpec ws_mb_X12_door ({ frames := 3, cells := 0, slots := 0, locals := 70 } : Room)).room s m [.ref (q 0), .int (iI 1)].toArray below meth c H locs 0 0 Q (F0 m 20 ls [.int (iI z53), .ref (q 0)]) := by
      intro z53 H locs ls f55 f56 hk2 hP hS hl
      have r_A_0_4 : (0 : Int) ≤ (A 0 4) ∧ (A 0 4) ≤ 1600 := hI 0 4
      have r_A_0_5 : (0 : Int) ≤ (A 0 5) ∧ (A 0 5) ≤ 1600 := hI 0 5
      refine x_calli (As := [.int (iI z53)]) (rest := []) ⟨hx, hb, hml, hown, hts⟩ (mb_X12_counts l dC dI cB cI cJ cZ cQ q _ z53 hI f55 hcCB) (cwV 1 hts (goodV (wl_in_2 _ (List.mem_of_getElem? (i := 32) rfl)) (wl_in_2 _ (List.mem_of_getElem? (i := 33) rfl)) (wl_in_2 _ (List.mem_of_getElem? (i := 34) rfl)) (wl_in_0 _ (List.mem_of_getElem? (i := 8) rfl)) (wl_in_2 _ (List.mem_of_getElem? (i := 20) rfl))) rfl rfl rfl (by decide +kernel) ⟨Nat.le_of_ble_eq_true rfl, Nat.le_of_ble_eq_true rfl⟩) hK hDD hA0 hP hS 0 12 wm0 rfl rfl hl.1 (Nat.le_of_ble_eq_true rfl) (dk_at dkX12_door_0 11 rfl) (fun z57 A58 H locs hw59 hP hS => ?_)
      have ghw59 : q_X12_counts z53 A z57 A58 := hw59
      obtain ⟨_, hI, hf60, hw59⟩ := hw59
      obtain ⟨hc61, hw59⟩ := hw59
      have r_A58_0_4 : (0 : Int) ≤ (A58 0 4) ∧ (A58 0 4) ≤ 1600 := hI 0 4
      have r_A58_0_8 : (0 : Int) ≤ (A58 0 8) ∧ (A58 0 8) ≤ 5 := hI 0 8
      have rz57 : 0 ≤ z57 ∧ z57 ≤ 1 := hw59.1
      refine lv_if_ne (tgt := 27) hx hb (dk_at dkX12_door_0 12 rfl) (by decide) (fun c62 => ?_) (fun c62 => ?_)
      · have c62 : ¬ z57 = 0 := mt (i_eq0 (rb rz57 (by decide) (by decide))).mpr c62
        refine lv_bipush (v := iI 10) hx hb (dk_at dkX12_door_0 14 rfl) (by decide +kernel) ?_
        refine lv_aload_n hx hb (dk_at dkX12_door_0 15 rfl) rfl (lv_at hl 0 rfl) ?_
        have e_A58_47 : A58 0 47 = (A 0 47) := (hf60.2 47 rfl)
        refine va_get (D := (dC, dI)) (ci := 12) (v := .int (iI (A58 0 47))) (C := RX12) (T := TX12) (N := 85) hx hb hts hiX12 hown hK hP 0 wm0 rfl 47 (by decide) (hts _ (List.mem_cons_of_mem _ (wl_in_1 _ (List.mem_of_getElem? (i := 12) rfl)))) (fun _ h9 => h9) rfl (dk_at dkX12_door_1 0 rfl) ?_
        refine tp_i (y := iI (A 0 47)) (congrArg iI e_A58_47) ?_
        refine x_mulv (v := 10 * (A 0 47)) hx hb (dk_at dkX12_door_1 1 rfl) (by omega) ?_
        refine lv_aload_n hx hb (dk_at dkX12_door_1 2 rfl) rfl (lv_at hl 0 rfl) ?_
        refine va_get (D := (dC, dI)) (ci := 12) (v := .ref (q 4)) (C := RX12) (T := TX12) (N := 85) hx hb hts hiX12 hown hK hP 0 wm0 rfl 15 (by decide) (hts _ (List.mem_cons_of_mem _ (wl_in_1 _ (List.mem_of_getElem? (i := 13) rfl)))) (fun _ h9 => h9) rfl (dk_at dkX12_door_1 3 rfl) ?_
        refine lv_aload_n hx hb (dk_at dkX12_door_1 4 rfl) rfl (lv_at hl 0 rfl) ?_
        refine va_get (D := (dC, dI)) (ci := 12) (v := .int (iI (A58 0 47))) (C := RX12) (T := TX12) (N := 85) hx hb hts hiX12 hown hK hP 0 wm0 rfl 47 (by decide) (hts _ (List.mem_cons_of_mem _ (wl_in_1 _ (List.mem_of_getElem? (i := 12) rfl)))) (fun _ h9 => h9) rfl (dk_at dkX12_door_1 5 rfl) ?_
        refine tp_i (y := iI (A 0 47)) (congrArg iI e_A58_47) ?_
        have a_A58_4 : A58 4 = A 4 := (hf60.1 4 (by decide) rfl)
        refine x_iald hx hb hK hP 4 1 wm4 rfl (by omega) (by decide) (dk_at dkX12_door_1 6 rfl) (fun z63 hz63 => ?_)
        have rz63 : (0 : Int) ≤ z63 ∧ z63 ≤ 10 := by rw [hz63]; exact hI 4 _
        have gz63 := Hd.mk hz63
        have hz63 : z63 = A 4 ((A 0 47)).toNat := hz63.trans (congrFun a_A58_4 _)
        have ez63 : z63 = z50 := hz63.trans hz50.symm
        refine x_addv (v := 10 * (A 0 47) + z63) hx hb (dk_at dkX12_door_1 7 rfl) (by omega) ?_
        refine lv_istore_n (lv' := [(2, .int (iI (10 * (A 0 47) + z63))), (0, .ref (q 0)), (1, .int (iI 1))]) hx hb (dk_at dkX12_door_1 8 rfl) rfl hl (by decide) rfl (fun ls hl => ?_)
        refine lv_aload_n hx hb (dk_at dkX12_door_1 9 rfl) rfl (lv_at hl 1 rfl) ?_
        refine va_get (D := (dC, dI)) (ci := 12) (v := .ref (q 5)) (C := RX12) (T := TX12) (N := 85) hx hb hts hiX12 hown hK hP 0 wm0 rfl 16 (by decide) (hts _ (List.mem_cons_of_mem _ (wl_in_1 _ (List.mem_of_getElem? (i := 22) rfl)))) (fun _ h9 => h9) rfl (dk_at dkX12_door_1 10 rfl) ?_
        refine lv_iload_n hx hb (dk_at dkX12_door_1 11 rfl) rfl (lv_at hl 0 rfl) ?_
        refine lv_aload_n hx hb (dk_at dkX12_door_1 12 rfl) rfl (lv_at hl 1 rfl) ?_
        refine x_calll (As := []) (rest := [.int (iI (10 * (A 0 47) + z63)), .ref (q 5)]) ⟨hx, hb, hml, hown, hts⟩ (mb_X12_fresh l dC dI cB cI cJ cZ cQ q _ hI hc61) (cwV 0 hts (goodV (wl_in_2 _ (List.mem_of_getElem? (i := 35) rfl)) (wl_in_2 _ (List.mem_of_getElem? (i := 36) rfl)) (wl_in_2 _ (List.mem_of_getElem? (i := 37) rfl)) (wl_in_0 _ (List.mem_of_getElem? (i := 8) rfl)) (wl_in_2 _ (List.mem_of_getElem? (i := 22) rfl))) rfl rfl rfl (by decide +kernel) ⟨Nat.le_of_ble_eq_true rfl, Nat.le_of_ble_eq_true rfl⟩) hK hDD hA0 hP hS 0 12 wm0 rfl rfl hl.1 (Nat.le_of_ble_eq_true rfl) (dk_at dkX12_door_1 13 rfl) (fun z64 A65 H locs hw66 hP hS => ?_)
        have ghw66 : q_X12_fresh A58 z64 A65 := hw66
        obtain ⟨_, hI, hf67, hw66⟩ := hw66
        obtain ⟨hc68, hw66⟩ := hw66
        have r_A65_0_4 : (0 : Int) ≤ (A65 0 4) ∧ (A65 0 4) ≤ 1600 := hI 0 4
        refine x_last hx hb hK hP hDD hS 5 2 wm5 rfl (by omega) (by decide) (dk_at dkX12_door_1 14 rfl) ws5 (fun H locs hP hS => ?_)
        have hI := hI.st (j := 5) (i := (10 * (A 0 47) + z63).toNat) (v := z64) (show (-9223372036854775808 : Int) ≤ z64 ∧ z64 ≤ 9223372036854775807 from (by omega))
        refine lv_iload_n hx hb (dk_at dkX12_door_1 15 rfl) rfl (lv_at hl 2 rfl) ?_
        obtain ⟨A69, hA69⟩ : ∃ A69 : St, A69 = (stA A65 5 (10 * (A 0 47) + z63).toNat z64) := ⟨_, rfl⟩
        rw [← hA69] at hP hI
        refine lv_if_eq (tgt := 66) hx hb (dk_at dkX12_door_2 0 rfl) (by decide) (fun c70 => absurd c70 (by decide +kernel)) (fun _ => ?_)
        refine lv_aload_n hx hb (dk_at dkX12_door_2 1 rfl) rfl (lv_at hl 1 rfl) ?_
        refine lv_ldc2 (v := 24948) hx hb hown (hts _ (List.mem_cons_of_mem _ (wl_in_0 _ (List.mem_of_getElem? (i := 47) rfl)))) (dk_at dkX12_door_2 2 rfl) ?_
        refine tp_l (y := jI 24948) (by decide +kernel) ?_
        have e_A69_4 : A69 0 4 = (A65 0 4) := by rw [hA69]; exact rfl
        refine x_callv (As := [.long (jI 24948)]) (rest := []) ⟨hx, hb, hml, hown, hts⟩ (mb_X12_must_ l dC dI cB cI cJ cZ cQ q _ 24948 hI ⟨by decide, by decide⟩ (CB.fr hc68 (fr_def hA69 (fr.st (fr.rf (M := [5]) (N := [])) (by decide) rfl)) rfl rfl)) (cwV 1 hts (goodV (wl_in_2 _ (List.mem_of_getElem? (i := 44) rfl)) (wl_in_2 _ (List.mem_of_getElem? (i := 45) rfl)) (wl_in_2 _ (List.mem_of_getElem? (i := 46) rfl)) (wl_in_0 _ (List.mem_of_getElem? (i := 8) rfl)) (wl_in_2 _ (List.mem_of_getElem? (i := 21) rfl))) rfl rfl rfl (by decide +kernel) ⟨Nat.le_of_ble_eq_true rfl, Nat.le_of_ble_eq_true rfl⟩) hK hDD hA0 hP hS 0 12 wm0 rfl rfl hl.1 (Nat.le_of_ble_eq_true rfl) (dk_at dkX12_door_2 3 rfl) (fun A71 H locs hw72 hP hS => ?_)
        have ghw72 : q_X12_must_ 24948 A69 A71 := hw72
        obtain ⟨_, hI, hf73, hw72⟩ := hw72
        obtain ⟨hc74, hw72⟩ := hw72
        have r_A71_0_4 : (0 : Int) ≤ (A71 0 4) ∧ (A71 0 4) ≤ 1600 := hI 0 4
        refine lv_aload_n hx hb (dk_at dkX12_door_2 4 rfl) rfl (lv_at hl 1 rfl) ?_
        refine va_get (D := (dC, dI)) (ci := 12) (v := .ref (q 6)) (C := RX12) (T := TX12) (N := 85) hx hb hts hiX12 hown hK hP 0 wm0 rfl 17 (by decide) (hts _ (List.mem_cons_of_mem _ (wl_in_2 _ (List.mem_of_getElem? (i := 39) rfl)))) (fun _ h9 => h9) rfl (dk_at dkX12_door_2 5 rfl) ?_
        refine lv_iload_n hx hb (dk_at dkX12_door_2 6 rfl) rfl (lv_at hl 0 rfl) ?_
        refine lv_aload_n hx hb (dk_at dkX12_door_2 7 rfl) rfl (lv_at hl 1 rfl) ?_
        refine lv_iconst (v := iI 0) hx hb (dk_at dkX12_door_2 8 rfl) (by decide +kernel) ?_
        have r_A71_0_3 : (0 : Int) ≤ (A71 0 3) ∧ (A71 0 3) ≤ 3 := hI 0 3
        have r_A71_0_7 : (-9223372036854775808 : Int) ≤ (A71 0 7) ∧ (A71 0 7) ≤ 9223372036854775807 := hI 0 7
        have r_A71_0_8 : (0 : Int) ≤ (A71 0 8) ∧ (A71 0 8) ≤ 5 := hI 0 8
        have e_A65_47 : A65 0 47 = (A 0 47) := (hf67.2 47 rfl).trans e_A58_47
        have e_A69_47 : A69 0 47 = (A 0 47) := by rw [hA69]; exact e_A65_47
        have e_A71_47 : A71 0 47 = (A 0 47) := (hf73.2 47 rfl).trans e_A69_47
        refine x_calli (As := [.int (iI 0)]) (rest := [.int (iI (10 * (A 0 47) + z63)), .ref (q 6)]) ⟨hx, hb, hml, hown, hts⟩ (mb_X12_asked_0 l dC dI cB cI cJ cZ cQ q _ 0 hI ⟨by decide, by decide⟩ hc74) (cwV 1 hts (goodV (wl_in_2 _ (List.mem_of_getElem? (i := 47) rfl)) (wl_in_2 _ (List.mem_of_getElem? (i := 48) rfl)) (wl_in_2 _ (List.mem_of_getElem? (i := 49) rfl)) (wl_in_0 _ (List.mem_of_getElem? (i := 8) rfl)) (wl_in_2 _ (List.mem_of_getElem? (i := 29) rfl))) rfl rfl rfl (by decide +kernel) ⟨Nat.le_of_ble_eq_true rfl, Nat.le_of_ble_eq_true rfl⟩) hK hDD hA0 hP hS 0 12 wm0 rfl rfl hl.1 (Nat.le_of_ble_eq_true rfl) (dk_at dkX12_door_2 9 rfl) (fun z75 A76 H locs hw77 hP hS => ?_)
        have ghw77 : q_X12_asked_0 0 A71 z75 A76 := hw77
        obtain ⟨_, hI, hf78, hw77⟩ := hw77
        obtain ⟨hc79, hw77⟩ := hw77
        have r_A76_0_4 : (0 : Int) ≤ (A76 0 4) ∧ (A76 0 4) ≤ 1600 := hI 0 4
        have r_A76_0_8 : (0 : Int) ≤ (A76 0 8) ∧ (A76 0 8) ≤ 5 := hI 0 8
        refine x_iast hx hb hK hP hDD hS 6 1 wm6 rfl (by omega) (by decide) (dk_at dkX12_door_2 10 rfl) ws6 (fun H locs hP hS => ?_)
        have hI := hI.st (j := 6) (i := (10 * (A 0 47) + z63).toNat) (v := z75) (show (0 : Int) ≤ z75 ∧ z75 ≤ 7 from (by omega))
        refine lv_iload_n hx hb (dk_at dkX12_door_2 11 rfl) rfl (lv_at hl 2 rfl) ?_
        obtain ⟨A80, hA80⟩ : ∃ A80 : St, A80 = (stA A76 6 (10 * (A 0 47) + z63).toNat z75) := ⟨_, rfl⟩
        rw [← hA80] at hP hI
        refine lv_if_ne (tgt := 92) hx hb (dk_at dkX12_door_2 12 rfl) (by decide) (fun _ => ?_) (fun c81 => absurd c81 (by decide +kernel))
        refine lv_aload_n hx hb (dk_at dkX12_door_3 4 rfl) rfl (lv_at hl 1 rfl) ?_
        refine va_get (D := (dC, dI)) (ci := 12) (v := .ref (q 7)) (C := RX12) (T := TX12) (N := 85) hx hb hts hiX12 hown hK hP 0 wm0 rfl 18 (by decide) (hts _ (List.mem_cons_of_mem _ (wl_in_2 _ (List.mem_of_getElem? (i := 40) rfl)))) (fun _ h9 => h9) rfl (dk_at dkX12_door_3 5 rfl) ?_
        refine lv_iload_n hx hb (dk_at dkX12_door_3 6 rfl) rfl (lv_at hl 0 rfl) ?_
        refine lv_iload_n hx hb (dk_at dkX12_door_3 7 rfl) rfl (lv_at hl 2 rfl) ?_
        refine lv_if_eq (tgt := 110) hx hb (dk_at dkX12_door_3 8 rfl) (by decide) (fun c82 => absurd c82 (by decide +kernel)) (fun _ => ?_)
        refine lv_aload_n hx hb (dk_at dkX12_door_3 9 rfl) rfl (lv_at hl 1 rfl) ?_
        refine va_get (D := (dC, dI)) (ci := 12) (v := .ref (q 6)) (C := RX12) (T := TX12) (N := 85) hx hb hts hiX12 hown hK hP 0 wm0 rfl 17 (by decide) (hts _ (List.mem_cons_of_mem _ (wl_in_2 _ (List.mem_of_getElem? (i := 39) rfl)))) (fun _ h9 => h9) rfl (dk_at dkX12_door_3 10 rfl) ?_
        refine lv_iload_n hx hb (dk_at dkX12_door_3 11 rfl) rfl (lv_at hl 0 rfl) ?_
        refine x_iald hx hb hK hP 6 1 wm6 rfl (by omega) (by decide) (dk_at dkX12_door_3 12 rfl) (fun z83 hz83 => ?_)
        have rz83 : (0 : Int) ≤ z83 ∧ z83 ≤ 7 := by rw [hz83]; exact hI 6 _
        have gz83 := Hd.mk hz83
        clear hz83
        refine lv_goto (tgt := 115) hx hb (dk_at dkX12_door_3 13 rfl) (by decide) ?_
        refine x_iast hx hb hK hP hDD hS 7 1 wm7 rfl (by omega) (by decide) (dk_at dkX12_door_4 1 rfl) ws7 (fun H locs hP hS => ?_)
        have hI := hI.st (j := 7) (i := (10 * (A 0 47) + z63).toNat) (v := z83) (show (0 : Int) ≤ z83 ∧ z83 ≤ 7 from (by omega))
        refine lv_aload_n hx hb (dk_at dkX12_door_4 2 rfl) rfl (lv_at hl 1 rfl) ?_
        refine va_get (D := (dC, dI)) (ci := 12) (v := .ref (q 8)) (C := RX12) (T := TX12) (N := 85) hx hb hts hiX12 hown hK hP 0 wm0 rfl 19 (by decide) (hts _ (List.mem_cons_of_mem _ (wl_in_2 _ (List.mem_of_getElem? (i := 41) rfl)))) (fun _ h9 => h9) rfl (dk_at dkX12_door_4 3 rfl) ?_
        refine lv_iload_n hx hb (dk_at dkX12_door_4 4 rfl) rfl (lv_at hl 0 rfl) ?_
        refine lv_iload_n hx hb (dk_at dkX12_door_4 5 rfl) rfl (lv_at hl 2 rfl) ?_
        refine x_zast hx hb hK hP hDD hS 8 3 wm8 rfl (by omega) (by decide) (dk_at dkX12_door_4 6 rfl) (by omega) ws8 (fun H locs hP hS => ?_)
        have hI := hI.st (j := 8) (i := (10 * (A 0 47) + z63).toNat) (v := 1) (show (0 : Int) ≤ 1 ∧ 1 ≤ 1 from (by omega))
        refine lv_aload_n hx hb (dk_at dkX12_door_4 7 rfl) rfl (lv_at hl 1 rfl) ?_
        refine va_get (D := (dC, dI)) (ci := 12) (v := .ref (q 9)) (C := RX12) (T := TX12) (N := 85) hx hb hts hiX12 hown hK hP 0 wm0 rfl 20 (by decide) (hts _ (List.mem_cons_of_mem _ (wl_in_2 _ (List.mem_of_getElem? (i := 42) rfl)))) (fun _ h9 => h9) rfl (dk_at dkX12_door_4 8 rfl) ?_
        refine lv_iload_n hx hb (dk_at dkX12_door_4 9 rfl) rfl (lv_at hl 0 rfl) ?_
        refine lv_iload_n hx hb (dk_at dkX12_door_4 10 rfl) rfl (lv_at hl 2 rfl) ?_
        obtain ⟨A84, hA84⟩ : ∃ A84 : St, A84 = (stA (stA A80 7 (10 * (A 0 47) + z63).toNat z83) 8 (10 * (A 0 47) + z63).toNat 1) := ⟨_, rfl⟩
        rw [← hA84] at hP hI
        refine lv_if_eq (tgt := 136) hx hb (dk_at dkX12_door_4 11 rfl) (by decide) (fun c85 => absurd c85 (by decide +kernel)) (fun _ => ?_)
        refine lv_iconst (v := iI 0) hx hb (dk_at dkX12_door_4 12 rfl) (by decide +kernel) ?_
        refine lv_goto (tgt := 143) hx hb (dk_at dkX12_door_4 13 rfl) (by decide) ?_
        refine x_iast hx hb hK hP hDD hS 9 1 wm9 rfl (by omega) (by decide) (dk_at dkX12_door_5 2 rfl) ws9 (fun H locs hP hS => ?_)
        have hI := hI.st (j := 9) (i := (10 * (A 0 47) + z63).toNat) (v := 0) (show (-2147483648 : Int) ≤ 0 ∧ 0 ≤ 2147483647 from (by omega))
        refine lv_aload_n hx hb (dk_at dkX12_door_5 3 rfl) rfl (lv_at hl 1 rfl) ?_
        refine va_get (D := (dC, dI)) (ci := 12) (v := .ref (q 10)) (C := RX12) (T := TX12) (N := 85) hx hb hts hiX12 hown hK hP 0 wm0 rfl 21 (by decide) (hts _ (List.mem_cons_of_mem _ (wl_in_2 _ (List.mem_of_getElem? (i := 43) rfl)))) (fun _ h9 => h9) rfl (dk_at dkX12_door_5 4 rfl) ?_
        refine lv_iload_n hx hb (dk_at dkX12_door_5 5 rfl) rfl (lv_at hl 0 rfl) ?_
        refine lv_iconst (v := iI 0) hx hb (dk_at dkX12_door_5 6 rfl) (by decide +kernel) ?_
        refine x_zast hx hb hK hP hDD hS 10 3 wm10 rfl (by omega) (by decide) (dk_at dkX12_door_5 7 rfl) (by omega) ws10 (fun H locs hP hS => ?_)
        have hI := hI.st (j := 10) (i := (10 * (A 0 47) + z63).toNat) (v := 0) (show (0 : Int) ≤ 0 ∧ 0 ≤ 1 from (by omega))
        refine lv_aload_n hx hb (dk_at dkX12_door_5 8 rfl) rfl (lv_at hl 1 rfl) ?_
        have e_A80_8 : A80 0 8 = (A76 0 8) := by rw [hA80]; exact rfl
        have e_A84_8 : A84 0 8 = (A76 0 8) := by rw [hA84]; exact e_A80_8
        refine va_get (D := (dC, dI)) (ci := 12) (v := .int (iI (A84 0 8))) (C := RX12) (T := TX12) (N := 85) hx hb hts hiX12 hown hK hP 0 wm0 rfl 8 (by decide) (hts _ (List.mem_cons_of_mem _ (wl_in_0 _ (List.mem_of_getElem? (i := 16) rfl)))) (fun _ h9 => h9) rfl (dk_at dkX12_door_5 9 rfl) ?_
        refine tp_i (y := iI (A76 0 8)) (congrArg iI e_A84_8) ?_
        refine lv_if_ne (tgt := 171) hx hb (dk_at dkX12_door_5 10 rfl) (by decide) (fun c86 => ?_) (fun c86 => ?_)
        · have c86 : ¬ (A76 0 8) = 0 := mt (i_eq0 (rb r_A76_0_8 (by decide) (by decide))).mpr c86
          obtain ⟨A87, hA87⟩ : ∃ A87 : St, A87 = (stA (stA A84 9 (10 * (A 0 47) + z63).toNat 0) 10 (10 * (A 0 47) + z63).toNat 0) := ⟨_, rfl⟩
          rw [← hA87] at hP hI
          have e_A80_4 : A80 0 4 = (A76 0 4) := by rw [hA80]; exact rfl
          have e_A84_4 : A84 0 4 = (A76 0 4) := by rw [hA84]; exact e_A80_4
          have e_A87_4 : A87 0 4 = (A76 0 4) := by rw [hA87]; exact e_A84_4
          have e_A87_8 : A87 0 8 = (A76 0 8) := by rw [hA87]; exact e_A84_8
          exact RET _ _ _ _ _ ⟨hk2 _ (u_d_X12_door_2 ⟨f55, ⟨z57, A58, ghw59, (Or.inl ⟨c62, ⟨z63, gz63.out, ⟨z64, A65, ghw66, ⟨A69, hA69, ⟨A71, ghw72, ⟨z75, A76, ghw77, ⟨A80, hA80, ⟨z83, gz83.out, ⟨A84, hA84, (Or.inl ⟨c86, ⟨A87, hA87, rfl⟩⟩)⟩⟩⟩⟩⟩⟩⟩⟩⟩)⟩⟩), hI, fr_def hA87 (fr.st (fr.st (fr_def hA84 (fr.st (fr.st (fr_def hA80 (fr.st (fr.trans (fr.trans (fr_def hA69 (fr.st (fr.trans (fr.trans (fr.rf) hf60 rfl rfl) hf67 rfl rfl) (by decide) rfl)) hf73 rfl rfl) hf78 rfl rfl) (by decide) rfl)) (by decide) rfl) (by decide) rfl)) (by decide) rfl) (by decide) rfl), (CB.fr (CB.fr (CB.fr hc79 (fr_def hA80 (fr.st (fr.rf (M := [6]) (N := [])) (by decide) rfl)) rfl rfl) (fr_def hA84 (fr.st (fr.st (fr.rf (M := [7, 8]) (N := [])) (by decide) rfl) (by decide) rfl)) rfl rfl) (fr_def hA87 (fr.st (fr.st (fr.rf (M := [9, 10]) (N := [])) (by decide) rfl) (by decide) rfl)) rfl rfl), by omega⟩ hP hS (dk_at dkX12_door_6 4 rfl)
        · have c86 : (A76 0 8) = 0 := (i_eq0 (rb r_A76_0_8 (by decide) (by decide))).mp c86
          refine lv_aload_n hx hb (dk_at dkX12_door_5 11 rfl) rfl (lv_at hl 1 rfl) ?_
          refine va_get (D := (dC, dI)) (ci := 12) (v := .ref (q 4)) (C := RX12) (T := TX12) (N := 85) hx hb hts hiX12 hown hK hP 0 wm0 rfl 15 (by decide) (hts _ (List.mem_cons_of_mem _ (wl_in_1 _ (List.mem_of_getElem? (i := 13) rfl)))) (fun _ h9 => h9) rfl (dk_at dkX12_door_5 12 rfl) ?_
          refine lv_aload_n hx hb (dk_at dkX12_door_5 13 rfl) rfl (lv_at hl 1 rfl) ?_
          have e_A76_47 : A76 0 47 = (A 0 47) := (hf78.2 47 rfl).trans e_A71_47
          have e_A80_47 : A80 0 47 = (A 0 47) := by rw [hA80]; exact e_A76_47
          have e_A84_47 : A84 0 47 = (A 0 47) := by rw [hA84]; exact e_A80_47
          refine va_get (D := (dC, dI)) (ci := 12) (v := .int (iI (A84 0 47))) (C := RX12) (T := TX12) (N := 85) hx hb hts hiX12 hown hK hP 0 wm0 rfl 47 (by decide) (hts _ (List.mem_cons_of_mem _ (wl_in_1 _ (List.mem_of_getElem? (i := 12) rfl)))) (fun _ h9 => h9) rfl (dk_at dkX12_door_5 14 rfl) ?_
          refine tp_i (y := iI (A 0 47)) (congrArg iI e_A84_47) ?_
          refine lv_dup2_11 hx hb (dk_at dkX12_door_5 15 rfl) rfl rfl ?_
          have a_A65_4 : A65 4 = A 4 := (hf67.1 4 (by decide) rfl).trans a_A58_4
          have a_A69_4 : A69 4 = A 4 := by rw [hA69]; exact a_A65_4
          have a_A71_4 : A71 4 = A 4 := (hf73.1 4 (by decide) rfl).trans a_A69_4
          have a_A76_4 : A76 4 = A 4 := (hf78.1 4 (by decide) rfl).trans a_A71_4
          have a_A80_4 : A80 4 = A 4 := by rw [hA80]; exact a_A76_4
          have a_A84_4 : A84 4 = A 4 := by rw [hA84]; exact a_A80_4
          refine x_iald hx hb hK hP 4 1 wm4 rfl (by omega) (by decide) (dk_at dkX12_door_6 0 rfl) (fun z88 hz88 => ?_)
          have rz88 : (0 : Int) ≤ z88 ∧ z88 ≤ 10 := by rw [hz88]; exact hI 4 _
          have gz88 := Hd.mk hz88
          have hz88 : z88 = A 4 ((A 0 47)).toNat := hz88.trans (congrFun a_A84_4 _)
          have ez88 : z88 = z50 := hz88.trans hz50.symm
          refine lv_iconst (v := iI 1) hx hb (dk_at dkX12_door_6 1 rfl) (by decide +kernel) ?_
          refine x_addv (v := z88 + 1) hx hb (dk_at dkX12_door_6 2 rfl) (by omega) ?_
          refine x_iast hx hb hK hP hDD hS 4 1 wm4 rfl (by omega) (by decide) (dk_at dkX12_door_6 3 rfl) ws4 (fun H locs hP hS => ?_)
          have hI := hI.st (j := 4) (i := ((A 0 47)).toNat) (v := z88 + 1) (show (0 : Int) ≤ z88 + 1 ∧ z88 + 1 ≤ 10 from (by omega))
          obtain ⟨A89, hA89⟩ : ∃ A89 : St, A89 = (stA (stA (stA A84 9 (10 * (A 0 47) + z63).toNat 0) 10 (10 * (A 0 47) + z63).toNat 0) 4 ((A 0 47)).toNat (z88 + 1)) := ⟨_, rfl⟩
          rw [← hA89] at hP hI
          have e_A80_4 : A80 0 4 = (A76 0 4) := by rw [hA80]; exact rfl
          have e_A84_4 : A84 0 4 = (A76 0 4) := by rw [hA84]; exact e_A80_4
          have e_A89_4 : A89 0 4 = (A76 0 4) := by rw [hA89]; exact e_A84_4
          have e_A89_8 : A89 0 8 = (A76 0 8) := by rw [hA89]; exact e_A84_8
          exact RET _ _ _ _ _ ⟨hk2 _ (u_d_X12_door_2 ⟨f55, ⟨z57, A58, ghw59, (Or.inl ⟨c62, ⟨z63, gz63.out, ⟨z64, A65, ghw66, ⟨A69, hA69, ⟨A71, ghw72, ⟨z75, A76, ghw77, ⟨A80, hA80, ⟨z83, gz83.out, ⟨A84, hA84, (Or.inr ⟨c86, ⟨z88, gz88.out, ⟨A89, hA89, rfl⟩⟩⟩)⟩⟩⟩⟩⟩⟩⟩⟩⟩)⟩⟩), hI, fr_def hA89 (fr.st (fr.st (fr.st (fr_def hA84 (fr.st (fr.st (fr_def hA80 (fr.st (fr.trans (fr.trans (fr_def hA69 (fr.st (fr.trans (fr.trans (fr.rf) hf60 rfl rfl) hf67 rfl rfl) (by decide) rfl)) hf73 rfl rfl) hf78 rfl rfl) (by decide) rfl)) (by decide) rfl) (by decide) rfl)) (by decide) rfl) (by decide) rfl) (by decide) rfl), (CB.fr (CB.fr (CB.fr hc79 (fr_def hA80 (fr.st (fr.rf (M := [6]) (N := [])) (by decide) rfl)) rfl rfl) (fr_def hA84 (fr.st (fr.st (fr.rf (M := [7, 8]) (N := [])) (by decide) rfl) (by decide) rfl)) rfl rfl) (fr_def hA89 (fr.st (fr.st (fr.st (fr.rf (M := [4, 9, 10]) (N := [])) (by decide) rfl) (by decide) rfl) (by decide) rfl)) rfl rfl), by omega⟩ hP hS (dk_at dkX12_door_6 4 rfl)
      · have c62 : z57 = 0 := (i_eq0 (rb rz57 (by decide) (by decide))).mp c62
        exact RET _ _ _ _ _ ⟨hk2 _ (u_d_X12_door_2 ⟨f55, ⟨z57, A58, ghw59, (Or.inr ⟨c62, rfl⟩)⟩⟩), hI, fr.trans (fr.rf) hf60 rfl rfl, hc61, by omega⟩ hP hS (dk_at dkX12_door_0 13 rfl)
    refine lv_icmp_ne (tgt := 19) hx hb (dk_at dkX12_door_0 7 rfl) (by decide) (fun c51 => ?_) (fun c51 => ?_)
    · have c51 : ¬ z50 = 10 := mt (i_eq (rb rz50 (by decide) (by decide)) ⟨by decide, by decide⟩).mpr c51
      refine lv_iconst (v := iI 0) hx hb (dk_at dkX12_door_0 10 rfl) (by decide +kernel) ?_
      exact J20_52 0 _ _ _ (by omega) (by omega) (fun uq hq => (u_r_X12_door (Or.inr ⟨rfl, ⟨z50, gz50.out, (Or.inl ⟨c51, hq⟩)⟩⟩))) hP hS (lv_sub hl [0, 1] rfl)
    · have c51 : z50 = 10 := (i_eq (rb rz50 (by decide) (by decide)) ⟨by decide, by decide⟩).mp c51
      refine lv_iconst (v := iI 1) hx hb (dk_at dkX12_door_0 8 rfl) (by decide +kernel) ?_
      refine lv_goto (tgt := 20) hx hb (dk_at dkX12_door_0 9 rfl) (by decide) ?_
      exact J20_52 1 _ _ _ (by omega) (by omega) (fun uq hq => (u_r_X12_door (Or.inr ⟨rfl, ⟨z50, gz50.out, (Or.inr ⟨c51, hq⟩)⟩⟩))) hP hS (lv_sub hl [0, 1] rfl)
/-! Wants: at most two a person. -/
theorem ct_out {f : Nat → Int} {s i : Nat} {p v : Int} : ∀ n, (i < s ∨ s + n ≤ i) → ct (up f i v) s p n = ct f s p n
  | 0, _ => rfl
  | n + 1, h => by
    have ih := ct_out (f := f) (s := s) (i := i) (p := p) (v := v) n (by omega)
    show ct (up f i v) s p n + (if up f i v (s + n) = p then 1 else 0) = ct f s p n + (if f (s + n) = p then 1 else 0)
    rw [ih, up_ne _ _ (show s + n ≠ i by omega)]
theorem ct_stepI {f : Nat → Int} {p b i m m' : Int} (hb : 0 ≤ b) (hi : b ≤ i) (h : m = ct f b.toNat p (i - b).toNat) (hm : (f i.toNat = p ∧ m' = m + 1) ∨ (¬ f i.toNat = p ∧ m' = m)) : m' = ct f b.toNat p (i + 1 - b).toNat := by
  have e : (i + 1 - b).toNat = (i - b).toNat + 1 := by omega
  have e2 : b.toNat + (i - b).toNat = i.toNat := by omega
  rw [e]
  show m' = ct f b.toNat p (i - b).toNat + (if f (b.toNat + (i - b).toNat) = p then 1 else 0)
  rw [e2, ← h]
  rcases hm with ⟨h1, h2⟩ | ⟨h1, h2⟩
  · rw [if_pos h1, h2]
  · rw [if_neg h1, h2]
    omega
theorem WI.le {A : St} (h : WI A) {b : Int} (hb : 0 ≤ b ∧ b ≤ 1) (p : Int) : ct (A 23) (6 * b).toNat p (A 22 b.toNat).toNat ≤ 2 := by
  rcases (show b = 0 ∨ b = 1 by omega) with rfl | rfl
  · exact (h p).1
  · exact (h p).2
theorem WI.skip {A B : St} {b k z : Int} (h : WI A) (hd : B = stA A 23 k.toNat z) (hb : 0 ≤ b ∧ b ≤ 1) (hk : k = 6 * b + A 22 b.toNat) (h0 : 0 ≤ A 22 0 ∧ A 22 0 ≤ 6) (h1 : 0 ≤ A 22 1 ∧ A 22 1 ≤ 6) (h5 : A 22 b.toNat ≤ 5) : WI B := by
  subst hd
  intro p
  have e22 : stA A 23 k.toNat z 22 = A 22 := stA_ne _ _ (by decide)
  have e23 : stA A 23 k.toNat z 23 = up (A 23) k.toNat z := stA_same _ _ _ _
  rw [e22, e23]
  rcases (show b = 0 ∨ b = 1 by omega) with rfl | rfl
  · have hk' : k = A 22 0 := by rw [hk]; simp
    have h5' : A 22 0 ≤ 5 := h5
    rw [ct_out _ (by omega), ct_out _ (by omega)]
    exact h p
  · have hk' : k = 6 + A 22 1 := by rw [hk]; simp
    rw [ct_out _ (by omega), ct_out _ (by omega)]
    exact h p
theorem WI.inc {A P B : St} {b n z p m k : Int} (h : WI P) (e23 : P 23 = up (A 23) k.toNat z) (hk : k = 6 * b + n) (hb : 0 ≤ b ∧ b ≤ 1) (hn : P 22 b.toNat = n) (hn6 : 0 ≤ n ∧ n ≤ 5) (hB : B = stA P 22 b.toNat (n + 1)) (hm : m = ct (A 23) (6 * b).toNat p n.toNat) (hpz : p = z) (hm1 : m ≤ 1) : WI B := by
  subst hB
  subst hpz
  intro r
  have hr := h r
  have e22 : stA P 22 b.toNat (n + 1) 22 = up (P 22) b.toNat (n + 1) := stA_same _ _ _ _
  have e23' : stA P 22 b.toNat (n + 1) 23 = P 23 := stA_ne _ _ (by decide)
  rw [e22, e23']
  have key : ∀ s : Nat, s = (6 * b).toNat → ct (P 23) s r n.toNat ≤ 2 → ct (P 23) s r (n + 1).toNat ≤ 2 := by
    intro s hs h2
    have e1 : (n + 1).toNat = n.toNat + 1 := by omega
    rw [e1]
    show ct (P 23) s r n.toNat + (if P 23 (s + n.toNat) = r then 1 else 0) ≤ 2
    have e2 : s + n.toNat = k.toNat := by omega
    rw [e2]
    have e3 : P 23 k.toNat = p := by rw [e23, up_same]
    rw [e3]
    by_cases hpr : p = r
    · subst hpr
      rw [if_pos rfl, e23, ct_out _ (by omega), hs, ← hm]
      omega
    · rw [if_neg hpr]
      omega
  rcases (show b = 0 ∨ b = 1 by omega) with rfl | rfl
  · have hn' : P 22 0 = n := hn
    refine ⟨?_, ?_⟩
    · show ct (P 23) 0 r (up (P 22) 0 (n + 1) 0).toNat ≤ 2
      rw [up_same]
      exact key 0 rfl (by rw [← hn']; exact hr.1)
    · show ct (P 23) 6 r (up (P 22) 0 (n + 1) 1).toNat ≤ 2
      rw [up_ne _ _ (by decide)]
      exact hr.2
  · have hn' : P 22 1 = n := hn
    refine ⟨?_, ?_⟩
    · show ct (P 23) 0 r (up (P 22) 1 (n + 1) 0).toNat ≤ 2
      rw [up_ne _ _ (by decide)]
      exact hr.1
    · show ct (P 23) 6 r (up (P 22) 1 (n + 1) 1).toNat ≤ 2
      rw [up_same]
      exact key 6 rfl (by rw [← hn']; exact hr.2)
theorem rd22 {A B : St} {i : Nat} {v : Int} {k : Nat} (h : B = stA A 23 i v) : B 22 k = A 22 k := by rw [h, stA_ne _ _ (by decide)]
theorem dkX12_shutting_0 : dkq cX12_shutting [(0, .aload_n 0, 1), (1, .iconst 0, 1), (2, .invokevirtual 394, 3), (5, .ifCond .ne 4, 3), (8, .return_, 1), (9, .aload_n 0, 1), (10, .iconst 1, 1), (11, .invokevirtual 406, 3), (14, .istore_n 1, 1), (15, .aload_n 0, 1), (16, .ldc2_w 314, 3), (19, .invokevirtual 402, 3), (22, .aload_n 0, 1), (23, .getfield 36, 3), (26, .ifCond .ne 34, 3), (29, .aload_n 0, 1)] = true := by decide +kernel
theorem dkX12_shutting_1 : dkq cX12_shutting [(30, .getfield 20, 3), (33, .iconst 1, 1), (34, .if_icmp .ne 26, 3), (37, .aload_n 0, 1), (38, .aload_n 0, 1), (39, .getfield 32, 3), (42, .invokevirtual 387, 3), (45, .ifCond .ne 15, 3), (48, .aload_n 0, 1), (49, .iconst 2, 1), (50, .aload_n 0, 1), (51, .getfield 32, 3), (54, .invokevirtual 390, 3), (57, .goto 4, 3), (60, .iconst (-1), 1), (61, .istore_n 2, 1)] = true := by decide +kernel
theorem dkX12_shutting_2 : dkq cX12_shutting [(62, .iload_n 2, 1), (63, .iconst (-1), 1), (64, .if_icmp .eq 46, 3), (67, .aload_n 0, 1), (68, .iconst 4, 1), (69, .aload_n 0, 1), (70, .getfield 155, 3), (73, .imul, 1), (74, .iload_n 2, 1), (75, .iadd, 1), (76, .iload_n 1, 1), (77, .invokevirtual 419, 3), (80, .ifCond .ne 21, 3), (83, .aload_n 0, 1), (84, .getfield 89, 3), (87, .iconst 4, 1)] = true := by decide +kernel
theorem dkX12_shutting_3 : dkq cX12_shutting [(88, .aload_n 0, 1), (89, .getfield 155, 3), (92, .imul, 1), (93, .iload_n 2, 1), (94, .iadd, 1), (95, .iaload, 1), (96, .bipush 6, 2), (98, .if_icmp .ne 12, 3), (101, .aload_n 0, 1), (102, .iconst 3, 1), (103, .aload_n 0, 1), (104, .getfield 23, 3), (107, .invokevirtual 286, 3), (110, .iconst 4, 1), (111, .aload_n 0, 1), (112, .getfield 155, 3)] = true := by decide +kernel
theorem dkX12_shutting_4 : dkq cX12_shutting [(115, .imul, 1), (116, .aload_n 0, 1), (117, .iconst 2, 1), (118, .invokevirtual 406, 3), (121, .iadd, 1), (122, .istore_n 2, 1), (123, .aload_n 0, 1), (124, .getfield 36, 3), (127, .ifCond .le 4, 3), (130, .return_, 1), (131, .aload_n 0, 1), (132, .getfield 92, 3), (135, .bipush 10, 2), (137, .iload_n 2, 1), (138, .imul, 1), (139, .aload_n 0, 1)] = true := by decide +kernel
theorem dkX12_shutting_5 : dkq cX12_shutting [(140, .getfield 89, 3), (143, .iload_n 2, 1), (144, .iaload, 1), (145, .iadd, 1), (146, .iload_n 1, 1), (147, .iastore, 1), (148, .aload_n 0, 1), (149, .getfield 89, 3), (152, .iload_n 2, 1), (153, .dup2, 1), (154, .iaload, 1), (155, .iconst 1, 1), (156, .iadd, 1), (157, .iastore, 1), (158, .return_, 1)] = true := by decide +kernel
