abbrev tr_d_X12_door_1 (A : St) (u : St) (z4 : Int) : Prop := ((0 ≤ z4 ∧ z4 ≤ 1) ∧ (∃ z8 : Int, ∃ A9 : St, q_X12_counts z4 A z8 A9 ∧ (((¬ z8 = 0) ∧ (∃ z14 : Int, z14 = A9 4 ((A 0 47)).toNat ∧ (∃ z15 : Int, ∃ A16 : St, q_X12_fresh A9 z15 A16 ∧ (∃ A20 : St, A20 = (stA A16 5 (10 * (A 0 47) + z14).toNat z15) ∧ (∃ z22 : Int, ∃ A23 : St, q_X12_asked_0 0 A20 z22 A23 ∧ (∃ A27 : St, A27 = (stA A23 6 (10 * (A 0 47) + z14).toNat z22) ∧ (∃ z29 : Int, z29 = A27 6 (10 * (A 0 47) + z14).toNat ∧ (∃ A30 : St, q_X12_bars 0 z29 A27 A30 ∧ (∃ z34 : Int, ∃ A35 : St, q_X12_asked_0 0 A30 z34 A35 ∧ (∃ A39 : St, A39 = (stA (stA A35 7 (10 * (A 0 47) + z14).toNat z34) 8 (10 * (A 0 47) + z14).toNat 0) ∧ (∃ z41 : Int, ∃ A42 : St, q_X12_number 1 99 A39 z41 A42 ∧ (((¬ (A42 0 8) = 0) ∧ (∃ A47 : St, A47 = (stA (stA A42 9 (10 * (A 0 47) + z14).toNat z41) 10 (10 * (A 0 47) + z14).toNat 0) ∧ (u = A47))) ∨ (((A42 0 8) = 0) ∧ (∃ z48 : Int, z48 = (stA (stA A42 9 (10 * (A 0 47) + z14).toNat z41) 10 (10 * (A 0 47) + z14).toNat 0) 4 ((A 0 47)).toNat ∧ (∃ A49 : St, A49 = (stA (stA (stA A42 9 (10 * (A 0 47) + z14).toNat z41) 10 (10 * (A 0 47) + z14).toNat 0) 4 ((A 0 47)).toNat (z48 + 1)) ∧ (u = A49)))))))))))))))) ∨ ((z8 = 0) ∧ (u = A9)))))
def d_X12_door_1 (A : St) (u : St) (z4 : Int) : Prop := tr_d_X12_door_1 A u z4
theorem u_d_X12_door_1 {A : St} {u : St} {z4 : Int} (h : tr_d_X12_door_1 A u z4) : d_X12_door_1 A u z4 := h
abbrev tr_d_X12_door_2 (A : St) (u : St) (z53 : Int) : Prop := ((0 ≤ z53 ∧ z53 ≤ 1) ∧ (∃ z57 : Int, ∃ A58 : St, q_X12_counts z53 A z57 A58 ∧ (((¬ z57 = 0) ∧ (∃ z63 : Int, z63 = A58 4 ((A 0 47)).toNat ∧ (∃ z64 : Int, ∃ A65 : St, q_X12_fresh A58 z64 A65 ∧ (∃ A69 : St, A69 = (stA A65 5 (10 * (A 0 47) + z63).toNat z64) ∧ (∃ A71 : St, q_X12_must_ 24948 A69 A71 ∧ (∃ z75 : Int, ∃ A76 : St, q_X12_asked_0 0 A71 z75 A76 ∧ (∃ A80 : St, A80 = (stA A76 6 (10 * (A 0 47) + z63).toNat z75) ∧ (∃ z83 : Int, z83 = A80 6 (10 * (A 0 47) + z63).toNat ∧ (∃ A84 : St, A84 = (stA (stA A80 7 (10 * (A 0 47) + z63).toNat z83) 8 (10 * (A 0 47) + z63).toNat 1) ∧ (((¬ (A76 0 8) = 0) ∧ (∃ A87 : St, A87 = (stA (stA A84 9 (10 * (A 0 47) + z63).toNat 0) 10 (10 * (A 0 47) + z63).toNat 0) ∧ (u = A87))) ∨ (((A76 0 8) = 0) ∧ (∃ z88 : Int, z88 = (stA (stA A84 9 (10 * (A 0 47) + z63).toNat 0) 10 (10 * (A 0 47) + z63).toNat 0) 4 ((A 0 47)).toNat ∧ (∃ A89 : St, A89 = (stA (stA (stA A84 9 (10 * (A 0 47) + z63).toNat 0) 10 (10 * (A 0 47) + z63).toNat 0) 4 ((A 0 47)).toNat (z88 + 1)) ∧ (u = A89)))))))))))))) ∨ ((z57 = 0) ∧ (u = A58)))))
def d_X12_door_2 (A : St) (u : St) (z53 : Int) : Prop := tr_d_X12_door_2 A u z53
theorem u_d_X12_door_2 {A : St} {u : St} {z53 : Int} (h : tr_d_X12_door_2 A u z53) : d_X12_door_2 A u z53 := h
abbrev tr_r_X12_door (x1 : Int) (A : St) (u : St) : Prop := (((x1 = 0) ∧ (∃ z1 : Int, z1 = A 4 ((A 0 47)).toNat ∧ (((¬ z1 = 10) ∧ (d_X12_door_1 A u 0)) ∨ ((z1 = 10) ∧ (d_X12_door_1 A u 1))))) ∨ ((x1 = 1) ∧ (∃ z50 : Int, z50 = A 4 ((A 0 47)).toNat ∧ (((¬ z50 = 10) ∧ (d_X12_door_2 A u 0)) ∨ ((z50 = 10) ∧ (d_X12_door_2 A u 1))))))
def r_X12_door (x1 : Int) (A : St) (u : St) : Prop := tr_r_X12_door x1 A u
theorem u_r_X12_door {x1 : Int} {A : St} {u : St} (h : tr_r_X12_door x1 A u) : r_X12_door x1 A u := h
def q_X12_door (x1 : Int) (A : St) (u : St) : Prop := r_X12_door x1 A u ∧ IM u ∧ fr [4, 5, 6, 7, 8, 9, 10] [3, 4, 5, 6, 7, 8, 9] A u ∧ CB u ∧ ((u 0 8 = 0 → A 0 5 ≤ u 0 4) ∧ A 0 4 ≤ u 0 4)
def ws_mb_X12_door : List Cond := .code yX12_door cX12_door 3 none :: WX
set_option maxHeartbeats 4000000 in
set_option maxRecDepth 100000 in
theorem mb_X12_door (l : Launch) (dC : Nat → ClassId) (dI : Nat → Nat → Nat) (cB cI cJ cZ cQ : ClassId) (q : Nat → Nat) (A : St) (x1 : Int) (hI : IM A) (hx1 : (0 : Int) ≤ x1 ∧ x1 ≤ 1) (hcCB : CB A) : XMv l yX12_door ws_mb_X12_door ({ frames := 3, cells := 0, slots := 0, locals := 70 } : Room) (dC, dI) (tyA cB cI cJ cZ cQ) (WM cI cJ cZ q) A [.ref (q 0), .int (iI x1)] (fun u => r_X12_door x1 A u ∧ IM u ∧ fr [4, 5, 6, 7, 8, 9, 10] [3, 4, 5, 6, 7, 8, 9] A u ∧ CB u ∧ ((u 0 8 = 0 → A 0 5 ≤ u 0 4) ∧ A 0 4 ≤ u 0 4)) := by
  refine x_metv (cc := cX12_door) (maxL := 3) WM_adr (by decide +kernel) rfl (Nat.le_of_ble_eq_true rfl) (fun p e s m below meth c Q AS ls hx hb hml hown hts hK hDD hA0 hP hS hl RET => ?_)
  have hown : s.vm.findClass RX12 = some m.cls := hown
  have hl : lv_has ls 3 [(0, .ref (q 0)), (1, .int (iI x1))] := hl
  have hiX12 : ∀ w ∈ u_ws RX12 TX12 85, w ∈ ws_mb_X12_door := fun w h => List.mem_cons_of_mem _ (wx_lay w h)
  obtain ⟨H, hHe⟩ : ∃ H : Heap, H = s.heap := ⟨_, rfl⟩
  rw [← hHe] at hP
  have hS : va_S AS s.heap H [] := by rw [hHe]; exact hS
  suffices hgo : ∀ locs : List Loc, va_S AS s.heap H locs → W p l e (headSpec ws_mb_X12_door ({ frames := 3, cells := 0, slots := 0, locals := 70 } : Room)).room s m [.ref (q 0), .int (iI x1)].toArray below meth c H locs 0 0 Q (F0 m 0 ls []) by
    have := hgo [] hS
    rw [hHe] at this
    exact this
  clear hS hHe
  intro locs hS
  have hle := CB.le hcCB
  rcases (show x1 = 0 ∨ x1 = 1 by omega) with rfl | rfl
  · have hl : lv_has ls 3 [(0, .ref (q 0)), (1, .int (iI 0))] := hl
    refine lv_aload_n hx hb (dk_at dkX12_door_0 0 rfl) rfl (lv_at hl 0 rfl) ?_
    refine lv_aload_n hx hb (dk_at dkX12_door_0 1 rfl) rfl (lv_at hl 0 rfl) ?_
    refine va_get (D := (dC, dI)) (ci := 12) (v := .ref (q 4)) (C := RX12) (T := TX12) (N := 85) hx hb hts hiX12 hown hK hP 0 wm0 rfl 15 (by decide) (hts _ (List.mem_cons_of_mem _ wlq_1_13)) (fun _ h9 => h9) rfl (dk_at dkX12_door_0 2 rfl) ?_
    refine lv_aload_n hx hb (dk_at dkX12_door_0 3 rfl) rfl (lv_at hl 0 rfl) ?_
    refine va_get (D := (dC, dI)) (ci := 12) (v := .int (iI (A 0 47))) (C := RX12) (T := TX12) (N := 85) hx hb hts hiX12 hown hK hP 0 wm0 rfl 47 (by decide) (hts _ (List.mem_cons_of_mem _ wlq_1_12)) (fun _ h9 => h9) rfl (dk_at dkX12_door_0 4 rfl) ?_
    have r_A_0_47 : (0 : Int) ≤ (A 0 47) ∧ (A 0 47) ≤ 1 := hI 0 47
    refine x_iald hx hb hK hP 4 1 wm4 rfl (by omega) (by decide) (dk_at dkX12_door_0 5 rfl) (fun z1 hz1 => ?_)
    have rz1 : (0 : Int) ≤ z1 ∧ z1 ≤ 10 := by rw [hz1]; exact hI 4 _
    have gz1 := Hd.mk hz1
    have hz1 : z1 = A 4 ((A 0 47)).toNat := hz1
    refine lv_bipush (v := iI 10) hx hb (dk_at dkX12_door_0 6 rfl) (by decide +kernel) ?_
    have J20_3 : ∀ (z4 : Int) (H : Heap) (locs : List Loc) (ls : Array Slot), (0 ≤ z4 ∧ z4 ≤ 1) → ((z4 = 0 ∧ ¬ z1 = 10) ∨ (z4 = 1 ∧ z1 = 10)) → (∀ (u : St), (d_X12_door_1 A u z4) → r_X12_door 0 A u) → va_P (dC, dI) vwCl (WM cI cJ cZ q A) H → va_S AS s.heap H locs → lv_has ls 3 [(0, .ref (q 0)), (1, .int (iI 0))] → W p l e (headSpec ws_mb_X12_door ({ frames := 3, cells := 0, slots := 0, locals := 70 } : Room)).room s m [.ref (q 0), .int (iI 0)].toArray below meth c H locs 0 0 Q (F0 m 20 ls [.int (iI z4), .ref (q 0)]) := by
      intro z4 H locs ls f6 f7 hk1 hP hS hl
      have r_A_0_4 : (0 : Int) ≤ (A 0 4) ∧ (A 0 4) ≤ 1600 := hI 0 4
      have r_A_0_5 : (0 : Int) ≤ (A 0 5) ∧ (A 0 5) ≤ 1600 := hI 0 5
      refine x_calli (As := [.int (iI z4)]) (rest := []) ⟨hx, hb, hml, hown, hts⟩ (mb_X12_counts l dC dI cB cI cJ cZ cQ q _ z4 hI f6 hcCB) (cwV 1 hts (goodV wlq_2_32 wlq_2_33 wlq_2_34 wlq_0_8 wlq_2_20) rfl rfl rfl (by decide +kernel) ⟨Nat.le_of_ble_eq_true rfl, Nat.le_of_ble_eq_true rfl⟩) hK hDD hA0 hP hS 0 12 wm0 rfl rfl hl.1 (Nat.le_of_ble_eq_true rfl) (dk_at dkX12_door_0 11 rfl) (fun z8 A9 H locs hw10 hP hS => ?_)
      have ghw10 : q_X12_counts z4 A z8 A9 := hw10
      obtain ⟨_, hI, hf11, hw10⟩ := hw10
      obtain ⟨hc12, hw10⟩ := hw10
      have r_A9_0_4 : (0 : Int) ≤ (A9 0 4) ∧ (A9 0 4) ≤ 1600 := hI 0 4
      have r_A9_0_8 : (0 : Int) ≤ (A9 0 8) ∧ (A9 0 8) ≤ 5 := hI 0 8
      have rz8 : 0 ≤ z8 ∧ z8 ≤ 1 := hw10.1
      refine lv_if_ne (tgt := 27) hx hb (dk_at dkX12_door_0 12 rfl) (by decide) (fun c13 => ?_) (fun c13 => ?_)
      · have c13 : ¬ z8 = 0 := mt (i_eq0 (rb rz8 (by decide) (by decide))).mpr c13
        refine lv_bipush (v := iI 10) hx hb (dk_at dkX12_door_0 14 rfl) (by decide +kernel) ?_
        refine lv_aload_n hx hb (dk_at dkX12_door_0 15 rfl) rfl (lv_at hl 0 rfl) ?_
        have e_A9_47 : A9 0 47 = (A 0 47) := (hf11.2 47 rfl)
        refine va_get (D := (dC, dI)) (ci := 12) (v := .int (iI (A9 0 47))) (C := RX12) (T := TX12) (N := 85) hx hb hts hiX12 hown hK hP 0 wm0 rfl 47 (by decide) (hts _ (List.mem_cons_of_mem _ wlq_1_12)) (fun _ h9 => h9) rfl (dk_at dkX12_door_1 0 rfl) ?_
        refine tp_i (y := iI (A 0 47)) (congrArg iI e_A9_47) ?_
        refine x_mulv (v := 10 * (A 0 47)) hx hb (dk_at dkX12_door_1 1 rfl) (by omega) ?_
        refine lv_aload_n hx hb (dk_at dkX12_door_1 2 rfl) rfl (lv_at hl 0 rfl) ?_
        refine va_get (D := (dC, dI)) (ci := 12) (v := .ref (q 4)) (C := RX12) (T := TX12) (N := 85) hx hb hts hiX12 hown hK hP 0 wm0 rfl 15 (by decide) (hts _ (List.mem_cons_of_mem _ wlq_1_13)) (fun _ h9 => h9) rfl (dk_at dkX12_door_1 3 rfl) ?_
        refine lv_aload_n hx hb (dk_at dkX12_door_1 4 rfl) rfl (lv_at hl 0 rfl) ?_
        refine va_get (D := (dC, dI)) (ci := 12) (v := .int (iI (A9 0 47))) (C := RX12) (T := TX12) (N := 85) hx hb hts hiX12 hown hK hP 0 wm0 rfl 47 (by decide) (hts _ (List.mem_cons_of_mem _ wlq_1_12)) (fun _ h9 => h9) rfl (dk_at dkX12_door_1 5 rfl) ?_
        refine tp_i (y := iI (A 0 47)) (congrArg iI e_A9_47) ?_
        have a_A9_4 : A9 4 = A 4 := (hf11.1 4 (by decide) rfl)
        refine x_iald hx hb hK hP 4 1 wm4 rfl (by omega) (by decide) (dk_at dkX12_door_1 6 rfl) (fun z14 hz14 => ?_)
        have rz14 : (0 : Int) ≤ z14 ∧ z14 ≤ 10 := by rw [hz14]; exact hI 4 _
        have gz14 := Hd.mk hz14
        have hz14 : z14 = A 4 ((A 0 47)).toNat := hz14.trans (congrFun a_A9_4 _)
        have ez14 : z14 = z1 := hz14.trans hz1.symm
        refine x_addv (v := 10 * (A 0 47) + z14) hx hb (dk_at dkX12_door_1 7 rfl) (by omega) ?_
        refine lv_istore_n (lv' := [(2, .int (iI (10 * (A 0 47) + z14))), (0, .ref (q 0)), (1, .int (iI 0))]) hx hb (dk_at dkX12_door_1 8 rfl) rfl hl (by decide) rfl (fun ls hl => ?_)
        refine lv_aload_n hx hb (dk_at dkX12_door_1 9 rfl) rfl (lv_at hl 1 rfl) ?_
        refine va_get (D := (dC, dI)) (ci := 12) (v := .ref (q 5)) (C := RX12) (T := TX12) (N := 85) hx hb hts hiX12 hown hK hP 0 wm0 rfl 16 (by decide) (hts _ (List.mem_cons_of_mem _ wlq_1_22)) (fun _ h9 => h9) rfl (dk_at dkX12_door_1 10 rfl) ?_
        refine lv_iload_n hx hb (dk_at dkX12_door_1 11 rfl) rfl (lv_at hl 0 rfl) ?_
        refine lv_aload_n hx hb (dk_at dkX12_door_1 12 rfl) rfl (lv_at hl 1 rfl) ?_
        refine x_calll (As := []) (rest := [.int (iI (10 * (A 0 47) + z14)), .ref (q 5)]) ⟨hx, hb, hml, hown, hts⟩ (mb_X12_fresh l dC dI cB cI cJ cZ cQ q _ hI hc12) (cwV 0 hts (goodV wlq_2_35 wlq_2_36 wlq_2_37 wlq_0_8 wlq_2_22) rfl rfl rfl (by decide +kernel) ⟨Nat.le_of_ble_eq_true rfl, Nat.le_of_ble_eq_true rfl⟩) hK hDD hA0 hP hS 0 12 wm0 rfl rfl hl.1 (Nat.le_of_ble_eq_true rfl) (dk_at dkX12_door_1 13 rfl) (fun z15 A16 H locs hw17 hP hS => ?_)
        have ghw17 : q_X12_fresh A9 z15 A16 := hw17
        obtain ⟨_, hI, hf18, hw17⟩ := hw17
        obtain ⟨hc19, hw17⟩ := hw17
        have r_A16_0_4 : (0 : Int) ≤ (A16 0 4) ∧ (A16 0 4) ≤ 1600 := hI 0 4
        refine x_last hx hb hK hP hDD hS 5 2 wm5 rfl (by omega) (by decide) (dk_at dkX12_door_1 14 rfl) ws5 (fun H locs hP hS => ?_)
        have hI := hI.st (j := 5) (i := (10 * (A 0 47) + z14).toNat) (v := z15) (show (-9223372036854775808 : Int) ≤ z15 ∧ z15 ≤ 9223372036854775807 from (by omega))
        refine lv_iload_n hx hb (dk_at dkX12_door_1 15 rfl) rfl (lv_at hl 2 rfl) ?_
        obtain ⟨A20, hA20⟩ : ∃ A20 : St, A20 = (stA A16 5 (10 * (A 0 47) + z14).toNat z15) := ⟨_, rfl⟩
        rw [← hA20] at hP hI
        refine lv_if_eq (tgt := 66) hx hb (dk_at dkX12_door_2 0 rfl) (by decide) (fun _ => ?_) (fun c21 => absurd c21 (by decide +kernel))
        refine lv_aload_n hx hb (dk_at dkX12_door_2 4 rfl) rfl (lv_at hl 1 rfl) ?_
        refine va_get (D := (dC, dI)) (ci := 12) (v := .ref (q 6)) (C := RX12) (T := TX12) (N := 85) hx hb hts hiX12 hown hK hP 0 wm0 rfl 17 (by decide) (hts _ (List.mem_cons_of_mem _ wlq_2_39)) (fun _ h9 => h9) rfl (dk_at dkX12_door_2 5 rfl) ?_
        refine lv_iload_n hx hb (dk_at dkX12_door_2 6 rfl) rfl (lv_at hl 0 rfl) ?_
        refine lv_aload_n hx hb (dk_at dkX12_door_2 7 rfl) rfl (lv_at hl 1 rfl) ?_
        refine lv_iconst (v := iI 0) hx hb (dk_at dkX12_door_2 8 rfl) (by decide +kernel) ?_
        have e_A20_3 : A20 0 3 = (A16 0 3) := by rw [hA20]; exact rfl
        have r_A16_0_3 : (0 : Int) ≤ (A16 0 3) ∧ (A16 0 3) ≤ 3 := by rw [← e_A20_3]; exact hI 0 3
        have e_A20_4 : A20 0 4 = (A16 0 4) := by rw [hA20]; exact rfl
        have e_A20_7 : A20 0 7 = (A16 0 7) := by rw [hA20]; exact rfl
        have r_A16_0_7 : (-9223372036854775808 : Int) ≤ (A16 0 7) ∧ (A16 0 7) ≤ 9223372036854775807 := by rw [← e_A20_7]; exact hI 0 7
        have e_A20_8 : A20 0 8 = (A16 0 8) := by rw [hA20]; exact rfl
        have r_A16_0_8 : (0 : Int) ≤ (A16 0 8) ∧ (A16 0 8) ≤ 5 := by rw [← e_A20_8]; exact hI 0 8
        have e_A16_47 : A16 0 47 = (A 0 47) := (hf18.2 47 rfl).trans e_A9_47
        have e_A20_47 : A20 0 47 = (A 0 47) := by rw [hA20]; exact e_A16_47
        refine x_calli (As := [.int (iI 0)]) (rest := [.int (iI (10 * (A 0 47) + z14)), .ref (q 6)]) ⟨hx, hb, hml, hown, hts⟩ (mb_X12_asked_0 l dC dI cB cI cJ cZ cQ q _ 0 hI ⟨by decide, by decide⟩ (CB.fr hc19 (fr_def hA20 (fr.st (fr.rf (M := [5]) (N := [])) (by decide) rfl)) rfl rfl)) (cwV 1 hts (goodV wlq_2_47 wlq_2_48 wlq_2_49 wlq_0_8 wlq_2_29) rfl rfl rfl (by decide +kernel) ⟨Nat.le_of_ble_eq_true rfl, Nat.le_of_ble_eq_true rfl⟩) hK hDD hA0 hP hS 0 12 wm0 rfl rfl hl.1 (Nat.le_of_ble_eq_true rfl) (dk_at dkX12_door_2 9 rfl) (fun z22 A23 H locs hw24 hP hS => ?_)
        have ghw24 : q_X12_asked_0 0 A20 z22 A23 := hw24
        obtain ⟨_, hI, hf25, hw24⟩ := hw24
        obtain ⟨hc26, hw24⟩ := hw24
        have r_A23_0_4 : (0 : Int) ≤ (A23 0 4) ∧ (A23 0 4) ≤ 1600 := hI 0 4
        have r_A23_0_8 : (0 : Int) ≤ (A23 0 8) ∧ (A23 0 8) ≤ 5 := hI 0 8
        refine x_iast hx hb hK hP hDD hS 6 1 wm6 rfl (by omega) (by decide) (dk_at dkX12_door_2 10 rfl) ws6 (fun H locs hP hS => ?_)
        have hI := hI.st (j := 6) (i := (10 * (A 0 47) + z14).toNat) (v := z22) (show (0 : Int) ≤ z22 ∧ z22 ≤ 7 from (by omega))
        refine lv_iload_n hx hb (dk_at dkX12_door_2 11 rfl) rfl (lv_at hl 2 rfl) ?_
        obtain ⟨A27, hA27⟩ : ∃ A27 : St, A27 = (stA A23 6 (10 * (A 0 47) + z14).toNat z22) := ⟨_, rfl⟩
        rw [← hA27] at hP hI
        refine lv_if_ne (tgt := 92) hx hb (dk_at dkX12_door_2 12 rfl) (by decide) (fun c28 => absurd c28 (by decide +kernel)) (fun _ => ?_)
        refine lv_aload_n hx hb (dk_at dkX12_door_2 13 rfl) rfl (lv_at hl 1 rfl) ?_
        refine lv_iconst (v := iI 0) hx hb (dk_at dkX12_door_2 14 rfl) (by decide +kernel) ?_
        refine lv_aload_n hx hb (dk_at dkX12_door_2 15 rfl) rfl (lv_at hl 1 rfl) ?_
        refine va_get (D := (dC, dI)) (ci := 12) (v := .ref (q 6)) (C := RX12) (T := TX12) (N := 85) hx hb hts hiX12 hown hK hP 0 wm0 rfl 17 (by decide) (hts _ (List.mem_cons_of_mem _ wlq_2_39)) (fun _ h9 => h9) rfl (dk_at dkX12_door_3 0 rfl) ?_
        refine lv_iload_n hx hb (dk_at dkX12_door_3 1 rfl) rfl (lv_at hl 0 rfl) ?_
        refine x_iald hx hb hK hP 6 1 wm6 rfl (by omega) (by decide) (dk_at dkX12_door_3 2 rfl) (fun z29 hz29 => ?_)
        have rz29 : (0 : Int) ≤ z29 ∧ z29 ≤ 7 := by rw [hz29]; exact hI 6 _
        have gz29 := Hd.mk hz29
        clear hz29
        refine x_callv (As := [.int (iI 0), .int (iI z29)]) (rest := []) ⟨hx, hb, hml, hown, hts⟩ (mb_X12_bars l dC dI cB cI cJ cZ cQ q _ 0 z29 hI ⟨by decide, by decide⟩ (rb rz29 (by decide) (by decide))) (cwV 2 hts (goodV wlq_2_50 wlq_2_51 wlq_2_52 wlq_0_8 wlq_2_30) rfl rfl rfl (by decide +kernel) ⟨Nat.le_of_ble_eq_true rfl, Nat.le_of_ble_eq_true rfl⟩) hK hDD hA0 hP hS 0 12 wm0 rfl rfl hl.1 (Nat.le_of_ble_eq_true rfl) (dk_at dkX12_door_3 3 rfl) (fun A30 H locs hw31 hP hS => ?_)
        have ghw31 : q_X12_bars 0 z29 A27 A30 := hw31
        obtain ⟨_, hI, hf32, hw31⟩ := hw31
        clear hw31
        refine lv_aload_n hx hb (dk_at dkX12_door_3 4 rfl) rfl (lv_at hl 1 rfl) ?_
        refine va_get (D := (dC, dI)) (ci := 12) (v := .ref (q 7)) (C := RX12) (T := TX12) (N := 85) hx hb hts hiX12 hown hK hP 0 wm0 rfl 18 (by decide) (hts _ (List.mem_cons_of_mem _ wlq_2_40)) (fun _ h9 => h9) rfl (dk_at dkX12_door_3 5 rfl) ?_
        refine lv_iload_n hx hb (dk_at dkX12_door_3 6 rfl) rfl (lv_at hl 0 rfl) ?_
        refine lv_iload_n hx hb (dk_at dkX12_door_3 7 rfl) rfl (lv_at hl 2 rfl) ?_
        refine lv_if_eq (tgt := 110) hx hb (dk_at dkX12_door_3 8 rfl) (by decide) (fun _ => ?_) (fun c33 => absurd c33 (by decide +kernel))
        refine lv_aload_n hx hb (dk_at dkX12_door_3 14 rfl) rfl (lv_at hl 1 rfl) ?_
        refine lv_iconst (v := iI 0) hx hb (dk_at dkX12_door_3 15 rfl) (by decide +kernel) ?_
        have e_A27_3 : A27 0 3 = (A23 0 3) := by rw [hA27]; exact rfl
        have e_A30_3 : A30 0 3 = (A23 0 3) := (hf32.2 3 rfl).trans e_A27_3
        have r_A23_0_3 : (0 : Int) ≤ (A23 0 3) ∧ (A23 0 3) ≤ 3 := by rw [← e_A30_3]; exact hI 0 3
        have e_A27_4 : A27 0 4 = (A23 0 4) := by rw [hA27]; exact rfl
        have e_A30_4 : A30 0 4 = (A23 0 4) := (hf32.2 4 rfl).trans e_A27_4
        have e_A27_7 : A27 0 7 = (A23 0 7) := by rw [hA27]; exact rfl
        have e_A30_7 : A30 0 7 = (A23 0 7) := (hf32.2 7 rfl).trans e_A27_7
        have r_A23_0_7 : (-9223372036854775808 : Int) ≤ (A23 0 7) ∧ (A23 0 7) ≤ 9223372036854775807 := by rw [← e_A30_7]; exact hI 0 7
        have r_A30_0_8 : (0 : Int) ≤ (A30 0 8) ∧ (A30 0 8) ≤ 5 := hI 0 8
        have e_A23_47 : A23 0 47 = (A 0 47) := (hf25.2 47 rfl).trans e_A20_47
        have e_A27_47 : A27 0 47 = (A 0 47) := by rw [hA27]; exact e_A23_47
        have e_A30_47 : A30 0 47 = (A 0 47) := (hf32.2 47 rfl).trans e_A27_47
        refine x_calli (As := [.int (iI 0)]) (rest := [.int (iI (10 * (A 0 47) + z14)), .ref (q 7)]) ⟨hx, hb, hml, hown, hts⟩ (mb_X12_asked_0 l dC dI cB cI cJ cZ cQ q _ 0 hI ⟨by decide, by decide⟩ (CB.fr (CB.fr hc26 (fr_def hA27 (fr.st (fr.rf (M := [6]) (N := [])) (by decide) rfl)) rfl rfl) hf32 rfl rfl)) (cwV 1 hts (goodV wlq_2_47 wlq_2_48 wlq_2_49 wlq_0_8 wlq_2_29) rfl rfl rfl (by decide +kernel) ⟨Nat.le_of_ble_eq_true rfl, Nat.le_of_ble_eq_true rfl⟩) hK hDD hA0 hP hS 0 12 wm0 rfl rfl hl.1 (Nat.le_of_ble_eq_true rfl) (dk_at dkX12_door_4 0 rfl) (fun z34 A35 H locs hw36 hP hS => ?_)
        have ghw36 : q_X12_asked_0 0 A30 z34 A35 := hw36
        obtain ⟨_, hI, hf37, hw36⟩ := hw36
        obtain ⟨hc38, hw36⟩ := hw36
        have r_A35_0_4 : (0 : Int) ≤ (A35 0 4) ∧ (A35 0 4) ≤ 1600 := hI 0 4
        have r_A35_0_8 : (0 : Int) ≤ (A35 0 8) ∧ (A35 0 8) ≤ 5 := hI 0 8
        refine x_iast hx hb hK hP hDD hS 7 1 wm7 rfl (by omega) (by decide) (dk_at dkX12_door_4 1 rfl) ws7 (fun H locs hP hS => ?_)
        have hI := hI.st (j := 7) (i := (10 * (A 0 47) + z14).toNat) (v := z34) (show (0 : Int) ≤ z34 ∧ z34 ≤ 7 from (by omega))
        refine lv_aload_n hx hb (dk_at dkX12_door_4 2 rfl) rfl (lv_at hl 1 rfl) ?_
        refine va_get (D := (dC, dI)) (ci := 12) (v := .ref (q 8)) (C := RX12) (T := TX12) (N := 85) hx hb hts hiX12 hown hK hP 0 wm0 rfl 19 (by decide) (hts _ (List.mem_cons_of_mem _ wlq_2_41)) (fun _ h9 => h9) rfl (dk_at dkX12_door_4 3 rfl) ?_
        refine lv_iload_n hx hb (dk_at dkX12_door_4 4 rfl) rfl (lv_at hl 0 rfl) ?_
        refine lv_iload_n hx hb (dk_at dkX12_door_4 5 rfl) rfl (lv_at hl 2 rfl) ?_
        refine x_zast hx hb hK hP hDD hS 8 3 wm8 rfl (by omega) (by decide) (dk_at dkX12_door_4 6 rfl) (by omega) ws8 (fun H locs hP hS => ?_)
        have hI := hI.st (j := 8) (i := (10 * (A 0 47) + z14).toNat) (v := 0) (show (0 : Int) ≤ 0 ∧ 0 ≤ 1 from (by omega))
        refine lv_aload_n hx hb (dk_at dkX12_door_4 7 rfl) rfl (lv_at hl 1 rfl) ?_
        refine va_get (D := (dC, dI)) (ci := 12) (v := .ref (q 9)) (C := RX12) (T := TX12) (N := 85) hx hb hts hiX12 hown hK hP 0 wm0 rfl 20 (by decide) (hts _ (List.mem_cons_of_mem _ wlq_2_42)) (fun _ h9 => h9) rfl (dk_at dkX12_door_4 8 rfl) ?_
        refine lv_iload_n hx hb (dk_at dkX12_door_4 9 rfl) rfl (lv_at hl 0 rfl) ?_
        refine lv_iload_n hx hb (dk_at dkX12_door_4 10 rfl) rfl (lv_at hl 2 rfl) ?_
        obtain ⟨A39, hA39⟩ : ∃ A39 : St, A39 = (stA (stA A35 7 (10 * (A 0 47) + z14).toNat z34) 8 (10 * (A 0 47) + z14).toNat 0) := ⟨_, rfl⟩
        rw [← hA39] at hP hI
        refine lv_if_eq (tgt := 136) hx hb (dk_at dkX12_door_4 11 rfl) (by decide) (fun _ => ?_) (fun c40 => absurd c40 (by decide +kernel))
        refine lv_aload_n hx hb (dk_at dkX12_door_4 14 rfl) rfl (lv_at hl 1 rfl) ?_
        refine lv_iconst (v := iI 1) hx hb (dk_at dkX12_door_4 15 rfl) (by decide +kernel) ?_
        refine lv_bipush (v := iI 99) hx hb (dk_at dkX12_door_5 0 rfl) (by decide +kernel) ?_
        have e_A39_4 : A39 0 4 = (A35 0 4) := by rw [hA39]; exact rfl
        refine x_calli (As := [.int (iI 1), .int (iI 99)]) (rest := [.int (iI (10 * (A 0 47) + z14)), .ref (q 9)]) ⟨hx, hb, hml, hown, hts⟩ (mb_X12_number l dC dI cB cI cJ cZ cQ q _ 1 99 hI ⟨by decide, by decide⟩ ⟨by decide, by decide⟩ (CB.fr hc38 (fr_def hA39 (fr.st (fr.st (fr.rf (M := [7, 8]) (N := [])) (by decide) rfl) (by decide) rfl)) rfl rfl)) (cwV 2 hts (goodV wlq_2_53 wlq_2_54 wlq_2_55 wlq_0_8 wlq_1_26) rfl rfl rfl (by decide +kernel) ⟨Nat.le_of_ble_eq_true rfl, Nat.le_of_ble_eq_true rfl⟩) hK hDD hA0 hP hS 0 12 wm0 rfl rfl hl.1 (Nat.le_of_ble_eq_true rfl) (dk_at dkX12_door_5 1 rfl) (fun z41 A42 H locs hw43 hP hS => ?_)
        have ghw43 : q_X12_number 1 99 A39 z41 A42 := hw43
        obtain ⟨_, hI, hf44, hw43⟩ := hw43
        obtain ⟨hc45, hw43⟩ := hw43
        have r_A42_0_4 : (0 : Int) ≤ (A42 0 4) ∧ (A42 0 4) ≤ 1600 := hI 0 4
        refine x_iast hx hb hK hP hDD hS 9 1 wm9 rfl (by omega) (by decide) (dk_at dkX12_door_5 2 rfl) ws9 (fun H locs hP hS => ?_)
        have hI := hI.st (j := 9) (i := (10 * (A 0 47) + z14).toNat) (v := z41) (show (-2147483648 : Int) ≤ z41 ∧ z41 ≤ 2147483647 from (by omega))
        refine lv_aload_n hx hb (dk_at dkX12_door_5 3 rfl) rfl (lv_at hl 1 rfl) ?_
        refine va_get (D := (dC, dI)) (ci := 12) (v := .ref (q 10)) (C := RX12) (T := TX12) (N := 85) hx hb hts hiX12 hown hK hP 0 wm0 rfl 21 (by decide) (hts _ (List.mem_cons_of_mem _ wlq_2_43)) (fun _ h9 => h9) rfl (dk_at dkX12_door_5 4 rfl) ?_
        refine lv_iload_n hx hb (dk_at dkX12_door_5 5 rfl) rfl (lv_at hl 0 rfl) ?_
        refine lv_iconst (v := iI 0) hx hb (dk_at dkX12_door_5 6 rfl) (by decide +kernel) ?_
        refine x_zast hx hb hK hP hDD hS 10 3 wm10 rfl (by omega) (by decide) (dk_at dkX12_door_5 7 rfl) (by omega) ws10 (fun H locs hP hS => ?_)
        have hI := hI.st (j := 10) (i := (10 * (A 0 47) + z14).toNat) (v := 0) (show (0 : Int) ≤ 0 ∧ 0 ≤ 1 from (by omega))
        refine lv_aload_n hx hb (dk_at dkX12_door_5 8 rfl) rfl (lv_at hl 1 rfl) ?_
        refine va_get (D := (dC, dI)) (ci := 12) (v := .int (iI (A42 0 8))) (C := RX12) (T := TX12) (N := 85) hx hb hts hiX12 hown hK hP 0 wm0 rfl 8 (by decide) (hts _ (List.mem_cons_of_mem _ wlq_0_16)) (fun _ h9 => h9) rfl (dk_at dkX12_door_5 9 rfl) ?_
        have r_A42_0_8 : (0 : Int) ≤ (A42 0 8) ∧ (A42 0 8) ≤ 5 := hI 0 8
        refine lv_if_ne (tgt := 171) hx hb (dk_at dkX12_door_5 10 rfl) (by decide) (fun c46 => ?_) (fun c46 => ?_)
        · have c46 : ¬ (A42 0 8) = 0 := mt (i_eq0 (rb r_A42_0_8 (by decide) (by decide))).mpr c46
          obtain ⟨A47, hA47⟩ : ∃ A47 : St, A47 = (stA (stA A42 9 (10 * (A 0 47) + z14).toNat z41) 10 (10 * (A 0 47) + z14).toNat 0) := ⟨_, rfl⟩
          rw [← hA47] at hP hI
          have e_A47_4 : A47 0 4 = (A42 0 4) := by rw [hA47]; exact rfl
          have e_A47_8 : A47 0 8 = (A42 0 8) := by rw [hA47]; exact rfl
          exact RET _ _ _ _ _ ⟨hk1 _ (u_d_X12_door_1 ⟨f6, ⟨z8, A9, ghw10, (Or.inl ⟨c13, ⟨z14, gz14.out, ⟨z15, A16, ghw17, ⟨A20, hA20, ⟨z22, A23, ghw24, ⟨A27, hA27, ⟨z29, gz29.out, ⟨A30, ghw31, ⟨z34, A35, ghw36, ⟨A39, hA39, ⟨z41, A42, ghw43, (Or.inl ⟨c46, ⟨A47, hA47, rfl⟩⟩)⟩⟩⟩⟩⟩⟩⟩⟩⟩⟩⟩)⟩⟩), hI, fr_def hA47 (fr.st (fr.st (fr.trans (fr_def hA39 (fr.st (fr.st (fr.trans (fr.trans (fr_def hA27 (fr.st (fr.trans (fr_def hA20 (fr.st (fr.trans (fr.trans (fr.rf) hf11 rfl rfl) hf18 rfl rfl) (by decide) rfl)) hf25 rfl rfl) (by decide) rfl)) hf32 rfl rfl) hf37 rfl rfl) (by decide) rfl) (by decide) rfl)) hf44 rfl rfl) (by decide) rfl) (by decide) rfl), (CB.fr hc45 (fr_def hA47 (fr.st (fr.st (fr.rf (M := [9, 10]) (N := [])) (by decide) rfl) (by decide) rfl)) rfl rfl), by omega⟩ hP hS (dk_at dkX12_door_6 4 rfl)
        · have c46 : (A42 0 8) = 0 := (i_eq0 (rb r_A42_0_8 (by decide) (by decide))).mp c46
          refine lv_aload_n hx hb (dk_at dkX12_door_5 11 rfl) rfl (lv_at hl 1 rfl) ?_
          refine va_get (D := (dC, dI)) (ci := 12) (v := .ref (q 4)) (C := RX12) (T := TX12) (N := 85) hx hb hts hiX12 hown hK hP 0 wm0 rfl 15 (by decide) (hts _ (List.mem_cons_of_mem _ wlq_1_13)) (fun _ h9 => h9) rfl (dk_at dkX12_door_5 12 rfl) ?_
          refine lv_aload_n hx hb (dk_at dkX12_door_5 13 rfl) rfl (lv_at hl 1 rfl) ?_
          have e_A35_47 : A35 0 47 = (A 0 47) := (hf37.2 47 rfl).trans e_A30_47
          have e_A39_47 : A39 0 47 = (A 0 47) := by rw [hA39]; exact e_A35_47
          have e_A42_47 : A42 0 47 = (A 0 47) := (hf44.2 47 rfl).trans e_A39_47
          refine va_get (D := (dC, dI)) (ci := 12) (v := .int (iI (A42 0 47))) (C := RX12) (T := TX12) (N := 85) hx hb hts hiX12 hown hK hP 0 wm0 rfl 47 (by decide) (hts _ (List.mem_cons_of_mem _ wlq_1_12)) (fun _ h9 => h9) rfl (dk_at dkX12_door_5 14 rfl) ?_
          refine tp_i (y := iI (A 0 47)) (congrArg iI e_A42_47) ?_
          refine lv_dup2_11 hx hb (dk_at dkX12_door_5 15 rfl) rfl rfl ?_
          have a_A16_4 : A16 4 = A 4 := (hf18.1 4 (by decide) rfl).trans a_A9_4
          have a_A20_4 : A20 4 = A 4 := by rw [hA20]; exact a_A16_4
          have a_A23_4 : A23 4 = A 4 := (hf25.1 4 (by decide) rfl).trans a_A20_4
          have a_A27_4 : A27 4 = A 4 := by rw [hA27]; exact a_A23_4
          have a_A30_4 : A30 4 = A 4 := (hf32.1 4 (by decide) rfl).trans a_A27_4
          have a_A35_4 : A35 4 = A 4 := (hf37.1 4 (by decide) rfl).trans a_A30_4
          have a_A39_4 : A39 4 = A 4 := by rw [hA39]; exact a_A35_4
          have a_A42_4 : A42 4 = A 4 := (hf44.1 4 (by decide) rfl).trans a_A39_4
          refine x_iald hx hb hK hP 4 1 wm4 rfl (by omega) (by decide) (dk_at dkX12_door_6 0 rfl) (fun z48 hz48 => ?_)
          have rz48 : (0 : Int) ≤ z48 ∧ z48 ≤ 10 := by rw [hz48]; exact hI 4 _
          have gz48 := Hd.mk hz48
          have hz48 : z48 = A 4 ((A 0 47)).toNat := hz48.trans (congrFun a_A42_4 _)
          have ez48 : z48 = z1 := hz48.trans hz1.symm
          refine lv_iconst (v := iI 1) hx hb (dk_at dkX12_door_6 1 rfl) (by decide +kernel) ?_
          refine x_addv (v := z48 + 1) hx hb (dk_at dkX12_door_6 2 rfl) (by omega) ?_
          refine x_iast hx hb hK hP hDD hS 4 1 wm4 rfl (by omega) (by decide) (dk_at dkX12_door_6 3 rfl) ws4 (fun H locs hP hS => ?_)
          have hI := hI.st (j := 4) (i := ((A 0 47)).toNat) (v := z48 + 1) (show (0 : Int) ≤ z48 + 1 ∧ z48 + 1 ≤ 10 from (by omega))
          obtain ⟨A49, hA49⟩ : ∃ A49 : St, A49 = (stA (stA (stA A42 9 (10 * (A 0 47) + z14).toNat z41) 10 (10 * (A 0 47) + z14).toNat 0) 4 ((A 0 47)).toNat (z48 + 1)) := ⟨_, rfl⟩
          rw [← hA49] at hP hI
          have e_A49_4 : A49 0 4 = (A42 0 4) := by rw [hA49]; exact rfl
          have e_A49_8 : A49 0 8 = (A42 0 8) := by rw [hA49]; exact rfl
          exact RET _ _ _ _ _ ⟨hk1 _ (u_d_X12_door_1 ⟨f6, ⟨z8, A9, ghw10, (Or.inl ⟨c13, ⟨z14, gz14.out, ⟨z15, A16, ghw17, ⟨A20, hA20, ⟨z22, A23, ghw24, ⟨A27, hA27, ⟨z29, gz29.out, ⟨A30, ghw31, ⟨z34, A35, ghw36, ⟨A39, hA39, ⟨z41, A42, ghw43, (Or.inr ⟨c46, ⟨z48, gz48.out, ⟨A49, hA49, rfl⟩⟩⟩)⟩⟩⟩⟩⟩⟩⟩⟩⟩⟩⟩)⟩⟩), hI, fr_def hA49 (fr.st (fr.st (fr.st (fr.trans (fr_def hA39 (fr.st (fr.st (fr.trans (fr.trans (fr_def hA27 (fr.st (fr.trans (fr_def hA20 (fr.st (fr.trans (fr.trans (fr.rf) hf11 rfl rfl) hf18 rfl rfl) (by decide) rfl)) hf25 rfl rfl) (by decide) rfl)) hf32 rfl rfl) hf37 rfl rfl) (by decide) rfl) (by decide) rfl)) hf44 rfl rfl) (by decide) rfl) (by decide) rfl) (by decide) rfl), (CB.fr hc45 (fr_def hA49 (fr.st (fr.st (fr.st (fr.rf (M := [4, 9, 10]) (N := [])) (by decide) rfl) (by decide) rfl) (by decide) rfl)) rfl rfl), by omega⟩ hP hS (dk_at dkX12_door_6 4 rfl)
      · have c13 : z8 = 0 := (i_eq0 (rb rz8 (by decide) (by decide))).mp c13
        exact RET _ _ _ _ _ ⟨hk1 _ (u_d_X12_door_1 ⟨f6, ⟨z8, A9, ghw10, (Or.inr ⟨c13, rfl⟩)⟩⟩), hI, fr.trans (fr.rf) hf11 rfl rfl, hc12, by omega⟩ hP hS (dk_at dkX12_door_0 13 rfl)
    refine lv_icmp_ne (tgt := 19) hx hb (dk_at dkX12_door_0 7 rfl) (by decide) (fun c2 => ?_) (fun c2 => ?_)
    · have c2 : ¬ z1 = 10 := mt (i_eq (rb rz1 (by decide) (by decide)) ⟨by decide, by decide⟩).mpr c2
      refine lv_iconst (v := iI 0) hx hb (dk_at dkX12_door_0 10 rfl) (by decide +kernel) ?_
      exact J20_3 0 _ _ _ (by omega) (by omega) (fun uq hq => (u_r_X12_door (Or.inl ⟨rfl, ⟨z1, gz1.out, (Or.inl ⟨c2, hq⟩)⟩⟩))) hP hS (lv_sub hl [0, 1] rfl)
    · have c2 : z1 = 10 := (i_eq (rb rz1 (by decide) (by decide)) ⟨by decide, by decide⟩).mp c2
      refine lv_iconst (v := iI 1) hx hb (dk_at dkX12_door_0 8 rfl) (by decide +kernel) ?_
      refine lv_goto (tgt := 20) hx hb (dk_at dkX12_door_0 9 rfl) (by decide) ?_
      exact J20_3 1 _ _ _ (by omega) (by omega) (fun uq hq => (u_r_X12_door (Or.inl ⟨rfl, ⟨z1, gz1.out, (Or.inr ⟨c2, hq⟩)⟩⟩))) hP hS (lv_sub hl [0, 1] rfl)
  · have hl : lv_has ls 3 [(0, .ref (q 0)), (1, .int (iI 1))] := hl
    refine lv_aload_n hx hb (dk_at dkX12_door_0 0 rfl) rfl (lv_at hl 0 rfl) ?_
    refine lv_aload_n hx hb (dk_at dkX12_door_0 1 rfl) rfl (lv_at hl 0 rfl) ?_
    refine va_get (D := (dC, dI)) (ci := 12) (v := .ref (q 4)) (C := RX12) (T := TX12) (N := 85) hx hb hts hiX12 hown hK hP 0 wm0 rfl 15 (by decide) (hts _ (List.mem_cons_of_mem _ wlq_1_13)) (fun _ h9 => h9) rfl (dk_at dkX12_door_0 2 rfl) ?_
    refine lv_aload_n hx hb (dk_at dkX12_door_0 3 rfl) rfl (lv_at hl 0 rfl) ?_
    refine va_get (D := (dC, dI)) (ci := 12) (v := .int (iI (A 0 47))) (C := RX12) (T := TX12) (N := 85) hx hb hts hiX12 hown hK hP 0 wm0 rfl 47 (by decide) (hts _ (List.mem_cons_of_mem _ wlq_1_12)) (fun _ h9 => h9) rfl (dk_at dkX12_door_0 4 rfl) ?_
    have r_A_0_47 : (0 : Int) ≤ (A 0 47) ∧ (A 0 47) ≤ 1 := hI 0 47
    refine x_iald hx hb hK hP 4 1 wm4 rfl (by omega) (by decide) (dk_at dkX12_door_0 5 rfl) (fun z50 hz50 => ?_)
    have rz50 : (0 : Int) ≤ z50 ∧ z50 ≤ 10 := by rw [hz50]; exact hI 4 _
    have gz50 := Hd.mk hz50
    have hz50 : z50 = A 4 ((A 0 47)).toNat := hz50
    refine lv_bipush (v := iI 10) hx hb (dk_at dkX12_door_0 6 rfl) (by decide +kernel) ?_
    have J20_52 : ∀ (z53 : Int) (H : Heap) (locs : List Loc) (ls : Array Slot), (0 ≤ z53 ∧ z53 ≤ 1) → ((z53 = 0 ∧ ¬ z50 = 10) ∨ (z53 = 1 ∧ z50 = 10)) → (∀ (u : St), (d_X12_door_2 A u z53) → r_X12_door 1 A u) → va_P (dC, dI) vwCl (WM cI cJ cZ q A) H → va_S AS s.heap H locs → lv_has ls 3 [(0, .ref (q 0)), (1, .int (iI 1))] → W p l e (headSpec ws_mb_X12_door ({ frames := 3, cells := 0, slots := 0, locals := 70 } : Room)).room s m [.ref (q 0), .int (iI 1)].toArray below meth c H locs 0 0 Q (F0 m 20 ls [.int (iI z53), .ref (q 0)]) := by
      intro z53 H locs ls f55 f56 hk2 hP hS hl
      have r_A_0_4 : (0 : Int) ≤ (A 0 4) ∧ (A 0 4) ≤ 1600 := hI 0 4
      have r_A_0_5 : (0 : Int) ≤ (A 0 5) ∧ (A 0 5) ≤ 1600 := hI 0 5
      refine x_calli (As := [.int (iI z53)]) (rest := []) ⟨hx, hb, hml, hown, hts⟩ (mb_X12_counts l dC dI cB cI cJ cZ cQ q _ z53 hI f55 hcCB) (cwV 1 hts (goodV wlq_2_32 wlq_2_33 wlq_2_34 wlq_0_8 wlq_2_20) rfl rfl rfl (by decide +kernel) ⟨Nat.le_of_ble_eq_true rfl, Nat.le_of_ble_eq_true rfl⟩) hK hDD hA0 hP hS 0 12 wm0 rfl rfl hl.1 (Nat.le_of_ble_eq_true rfl) (dk_at dkX12_door_0 11 rfl) (fun z57 A58 H locs hw59 hP hS => ?_)
      have ghw59 : q_X12_counts z53 A z57 A58 := hw59
      obtain ⟨_, hI, hf60, hw59⟩ := hw59
      obtain ⟨hc61, hw59⟩ := hw59
      have r_A58_0_4 : (0 : Int) ≤ (A58 0 4) ∧ (A58 0 4) ≤ 1600 := hI 0 4
      have r_A58_0_8 : (0 : Int) ≤ (A58 0 8) ∧ (A58 0 8) ≤ 5 := hI 0 8
      have rz57 : 0 ≤ z57 ∧ z57 ≤ 1 := hw59.1
      refine lv_if_ne (tgt := 27) hx hb (dk_at dkX12_door_0 12 rfl) (by decide) (fun c62 => ?_) (fun c62 => ?_)
      · have c62 : ¬ z57 = 0 := mt (i_eq0 (rb rz57 (by decide) (by decide))).mpr c62
        refine lv_bipush (v := iI 10) hx hb (dk_at dkX12_door_0 14 rfl) (by decide +kernel) ?_
        refine lv_aload_n hx hb (dk_at dkX12_door_0 15 rfl) rfl (lv_at hl 0 rfl) ?_
        have e_A58_47 : A58 0 47 = (A 0 47) := (hf60.2 47 rfl)
        refine va_get (D := (dC, dI)) (ci := 12) (v := .int (iI (A58 0 47))) (C := RX12) (T := TX12) (N := 85) hx hb hts hiX12 hown hK hP 0 wm0 rfl 47 (by decide) (hts _ (List.mem_cons_of_mem _ wlq_1_12)) (fun _ h9 => h9) rfl (dk_at dkX12_door_1 0 rfl) ?_
        refine tp_i (y := iI (A 0 47)) (congrArg iI e_A58_47) ?_
        refine x_mulv (v := 10 * (A 0 47)) hx hb (dk_at dkX12_door_1 1 rfl) (by omega) ?_
        refine lv_aload_n hx hb (dk_at dkX12_door_1 2 rfl) rfl (lv_at hl 0 rfl) ?_
        refine va_get (D := (dC, dI)) (ci := 12) (v := .ref (q 4)) (C := RX12) (T := TX12) (N := 85) hx hb hts hiX12 hown hK hP 0 wm0 rfl 15 (by decide) (hts _ (List.mem_cons_of_mem _ wlq_1_13)) (fun _ h9 => h9) rfl (dk_at dkX12_door_1 3 rfl) ?_
        refine lv_aload_n hx hb (dk_at dkX12_door_1 4 rfl) rfl (lv_at hl 0 rfl) ?_
        refine va_get (D := (dC, dI)) (ci := 12) (v := .int (iI (A58 0 47))) (C := RX12) (T := TX12) (N := 85) hx hb hts hiX12 hown hK hP 0 wm0 rfl 47 (by decide) (hts _ (List.mem_cons_of_mem _ wlq_1_12)) (fun _ h9 => h9) rfl (dk_at dkX12_door_1 5 rfl) ?_
        refine tp_i (y := iI (A 0 47)) (congrArg iI e_A58_47) ?_
        have a_A58_4 : A58 4 = A 4 := (hf60.1 4 (by decide) rfl)
        refine x_iald hx hb hK hP 4 1 wm4 rfl (by omega) (by decide) (dk_at dkX12_door_1 6 rfl) (fun z63 hz63 => ?_)
        have rz63 : (0 : Int) ≤ z63 ∧ z63 ≤ 10 := by rw [hz63]; exact hI 4 _
        have gz63 := Hd.mk hz63
        have hz63 : z63 = A 4 ((A 0 47)).toNat := hz63.trans (congrFun a_A58_4 _)
        have ez63 : z63 = z50 := hz63.trans hz50.symm
        refine x_addv (v := 10 * (A 0 47) + z63) hx hb (dk_at dkX12_door_1 7 rfl) (by omega) ?_
        refine lv_istore_n (lv' := [(2, .int (iI (10 * (A 0 47) + z63))), (0, .ref (q 0)), (1, .int (iI 1))]) hx hb (dk_at dkX12_door_1 8 rfl) rfl hl (by decide) rfl (fun ls hl => ?_)
        refine lv_aload_n hx hb (dk_at dkX12_door_1 9 rfl) rfl (lv_at hl 1 rfl) ?_
        refine va_get (D := (dC, dI)) (ci := 12) (v := .ref (q 5)) (C := RX12) (T := TX12) (N := 85) hx hb hts hiX12 hown hK hP 0 wm0 rfl 16 (by decide) (hts _ (List.mem_cons_of_mem _ wlq_1_22)) (fun _ h9 => h9) rfl (dk_at dkX12_door_1 10 rfl) ?_
        refine lv_iload_n hx hb (dk_at dkX12_door_1 11 rfl) rfl (lv_at hl 0 rfl) ?_
        refine lv_aload_n hx hb (dk_at dkX12_door_1 12 rfl) rfl (lv_at hl 1 rfl) ?_
        refine x_calll (As := []) (rest := [.int (iI (10 * (A 0 47) + z63)), .ref (q 5)]) ⟨hx, hb, hml, hown, hts⟩ (mb_X12_fresh l dC dI cB cI cJ cZ cQ q _ hI hc61) (cwV 0 hts (goodV wlq_2_35 wlq_2_36 wlq_2_37 wlq_0_8 wlq_2_22) rfl rfl rfl (by decide +kernel) ⟨Nat.le_of_ble_eq_true rfl, Nat.le_of_ble_eq_true rfl⟩) hK hDD hA0 hP hS 0 12 wm0 rfl rfl hl.1 (Nat.le_of_ble_eq_true rfl) (dk_at dkX12_door_1 13 rfl) (fun z64 A65 H locs hw66 hP hS => ?_)
        have ghw66 : q_X12_fresh A58 z64 A65 := hw66
        obtain ⟨_, hI, hf67, hw66⟩ := hw66
        obtain ⟨hc68, hw66⟩ := hw66
        have r_A65_0_4 : (0 : Int) ≤ (A65 0 4) ∧ (A65 0 4) ≤ 1600 := hI 0 4
        refine x_last hx hb hK hP hDD hS 5 2 wm5 rfl (by omega) (by decide) (dk_at dkX12_door_1 14 rfl) ws5 (fun H locs hP hS => ?_)
        have hI := hI.st (j := 5) (i := (10 * (A 0 47) + z63).toNat) (v := z64) (show (-9223372036854775808 : Int) ≤ z64 ∧ z64 ≤ 9223372036854775807 from (by omega))
        refine lv_iload_n hx hb (dk_at dkX12_door_1 15 rfl) rfl (lv_at hl 2 rfl) ?_
        obtain ⟨A69, hA69⟩ : ∃ A69 : St, A69 = (stA A65 5 (10 * (A 0 47) + z63).toNat z64) := ⟨_, rfl⟩
        rw [← hA69] at hP hI
        refine lv_if_eq (tgt := 66) hx hb (dk_at dkX12_door_2 0 rfl) (by decide) (fun c70 => absurd c70 (by decide +kernel)) (fun _ => ?_)
        refine lv_aload_n hx hb (dk_at dkX12_door_2 1 rfl) rfl (lv_at hl 1 rfl) ?_
        refine lv_ldc2 (v := 24948) hx hb hown (hts _ (List.mem_cons_of_mem _ wlq_0_47)) (dk_at dkX12_door_2 2 rfl) ?_
        refine tp_l (y := jI 24948) (by decide +kernel) ?_
        have e_A69_4 : A69 0 4 = (A65 0 4) := by rw [hA69]; exact rfl
        refine x_callv (As := [.long (jI 24948)]) (rest := []) ⟨hx, hb, hml, hown, hts⟩ (mb_X12_must_ l dC dI cB cI cJ cZ cQ q _ 24948 hI ⟨by decide, by decide⟩ (CB.fr hc68 (fr_def hA69 (fr.st (fr.rf (M := [5]) (N := [])) (by decide) rfl)) rfl rfl)) (cwV 1 hts (goodV wlq_2_44 wlq_2_45 wlq_2_46 wlq_0_8 wlq_2_21) rfl rfl rfl (by decide +kernel) ⟨Nat.le_of_ble_eq_true rfl, Nat.le_of_ble_eq_true rfl⟩) hK hDD hA0 hP hS 0 12 wm0 rfl rfl hl.1 (Nat.le_of_ble_eq_true rfl) (dk_at dkX12_door_2 3 rfl) (fun A71 H locs hw72 hP hS => ?_)
        have ghw72 : q_X12_must_ 24948 A69 A71 := hw72
        obtain ⟨_, hI, hf73, hw72⟩ := hw72
        obtain ⟨hc74, hw72⟩ := hw72
        have r_A71_0_4 : (0 : Int) ≤ (A71 0 4) ∧ (A71 0 4) ≤ 1600 := hI 0 4
        refine lv_aload_n hx hb (dk_at dkX12_door_2 4 rfl) rfl (lv_at hl 1 rfl) ?_
        refine va_get (D := (dC, dI)) (ci := 12) (v := .ref (q 6)) (C := RX12) (T := TX12) (N := 85) hx hb hts hiX12 hown hK hP 0 wm0 rfl 17 (by decide) (hts _ (List.mem_cons_of_mem _ wlq_2_39)) (fun _ h9 => h9) rfl (dk_at dkX12_door_2 5 rfl) ?_
        refine lv_iload_n hx hb (dk_at dkX12_door_2 6 rfl) rfl (lv_at hl 0 rfl) ?_
        refine lv_aload_n hx hb (dk_at dkX12_door_2 7 rfl) rfl (lv_at hl 1 rfl) ?_
        refine lv_iconst (v := iI 0) hx hb (dk_at dkX12_door_2 8 rfl) (by decide +kernel) ?_
        have r_A71_0_3 : (0 : Int) ≤ (A71 0 3) ∧ (A71 0 3) ≤ 3 := hI 0 3
        have r_A71_0_7 : (-9223372036854775808 : Int) ≤ (A71 0 7) ∧ (A71 0 7) ≤ 9223372036854775807 := hI 0 7
        have r_A71_0_8 : (0 : Int) ≤ (A71 0 8) ∧ (A71 0 8) ≤ 5 := hI 0 8
        have e_A65_47 : A65 0 47 = (A 0 47) := (hf67.2 47 rfl).trans e_A58_47
        have e_A69_47 : A69 0 47 = (A 0 47) := by rw [hA69]; exact e_A65_47
        have e_A71_47 : A71 0 47 = (A 0 47) := (hf73.2 47 rfl).trans e_A69_47
        refine x_calli (As := [.int (iI 0)]) (rest := [.int (iI (10 * (A 0 47) + z63)), .ref (q 6)]) ⟨hx, hb, hml, hown, hts⟩ (mb_X12_asked_0 l dC dI cB cI cJ cZ cQ q _ 0 hI ⟨by decide, by decide⟩ hc74) (cwV 1 hts (goodV wlq_2_47 wlq_2_48 wlq_2_49 wlq_0_8 wlq_2_29) rfl rfl rfl (by decide +kernel) ⟨Nat.le_of_ble_eq_true rfl, Nat.le_of_ble_eq_true rfl⟩) hK hDD hA0 hP hS 0 12 wm0 rfl rfl hl.1 (Nat.le_of_ble_eq_true rfl) (dk_at dkX12_door_2 9 rfl) (fun z75 A76 H locs hw77 hP hS => ?_)
        have ghw77 : q_X12_asked_0 0 A71 z75 A76 := hw77
        obtain ⟨_, hI, hf78, hw77⟩ := hw77
        obtain ⟨hc79, hw77⟩ := hw77
        have r_A76_0_4 : (0 : Int) ≤ (A76 0 4) ∧ (A76 0 4) ≤ 1600 := hI 0 4
        have r_A76_0_8 : (0 : Int) ≤ (A76 0 8) ∧ (A76 0 8) ≤ 5 := hI 0 8
        refine x_iast hx hb hK hP hDD hS 6 1 wm6 rfl (by omega) (by decide) (dk_at dkX12_door_2 10 rfl) ws6 (fun H locs hP hS => ?_)
        have hI := hI.st (j := 6) (i := (10 * (A 0 47) + z63).toNat) (v := z75) (show (0 : Int) ≤ z75 ∧ z75 ≤ 7 from (by omega))
        refine lv_iload_n hx hb (dk_at dkX12_door_2 11 rfl) rfl (lv_at hl 2 rfl) ?_
        obtain ⟨A80, hA80⟩ : ∃ A80 : St, A80 = (stA A76 6 (10 * (A 0 47) + z63).toNat z75) := ⟨_, rfl⟩
        rw [← hA80] at hP hI
        refine lv_if_ne (tgt := 92) hx hb (dk_at dkX12_door_2 12 rfl) (by decide) (fun _ => ?_) (fun c81 => absurd c81 (by decide +kernel))
        refine lv_aload_n hx hb (dk_at dkX12_door_3 4 rfl) rfl (lv_at hl 1 rfl) ?_
        refine va_get (D := (dC, dI)) (ci := 12) (v := .ref (q 7)) (C := RX12) (T := TX12) (N := 85) hx hb hts hiX12 hown hK hP 0 wm0 rfl 18 (by decide) (hts _ (List.mem_cons_of_mem _ wlq_2_40)) (fun _ h9 => h9) rfl (dk_at dkX12_door_3 5 rfl) ?_
        refine lv_iload_n hx hb (dk_at dkX12_door_3 6 rfl) rfl (lv_at hl 0 rfl) ?_
        refine lv_iload_n hx hb (dk_at dkX12_door_3 7 rfl) rfl (lv_at hl 2 rfl) ?_
        refine lv_if_eq (tgt := 110) hx hb (dk_at dkX12_door_3 8 rfl) (by decide) (fun c82 => absurd c82 (by decide +kernel)) (fun _ => ?_)
        refine lv_aload_n hx hb (dk_at dkX12_door_3 9 rfl) rfl (lv_at hl 1 rfl) ?_
        refine va_get (D := (dC, dI)) (ci := 12) (v := .ref (q 6)) (C := RX12) (T := TX12) (N := 85) hx hb hts hiX12 hown hK hP 0 wm0 rfl 17 (by decide) (hts _ (List.mem_cons_of_mem _ wlq_2_39)) (fun _ h9 => h9) rfl (dk_at dkX12_door_3 10 rfl) ?_
        refine lv_iload_n hx hb (dk_at dkX12_door_3 11 rfl) rfl (lv_at hl 0 rfl) ?_
        refine x_iald hx hb hK hP 6 1 wm6 rfl (by omega) (by decide) (dk_at dkX12_door_3 12 rfl) (fun z83 hz83 => ?_)
        have rz83 : (0 : Int) ≤ z83 ∧ z83 ≤ 7 := by rw [hz83]; exact hI 6 _
        have gz83 := Hd.mk hz83
        clear hz83
        refine lv_goto (tgt := 115) hx hb (dk_at dkX12_door_3 13 rfl) (by decide) ?_
        refine x_iast hx hb hK hP hDD hS 7 1 wm7 rfl (by omega) (by decide) (dk_at dkX12_door_4 1 rfl) ws7 (fun H locs hP hS => ?_)
        have hI := hI.st (j := 7) (i := (10 * (A 0 47) + z63).toNat) (v := z83) (show (0 : Int) ≤ z83 ∧ z83 ≤ 7 from (by omega))
        refine lv_aload_n hx hb (dk_at dkX12_door_4 2 rfl) rfl (lv_at hl 1 rfl) ?_
        refine va_get (D := (dC, dI)) (ci := 12) (v := .ref (q 8)) (C := RX12) (T := TX12) (N := 85) hx hb hts hiX12 hown hK hP 0 wm0 rfl 19 (by decide) (hts _ (List.mem_cons_of_mem _ wlq_2_41)) (fun _ h9 => h9) rfl (dk_at dkX12_door_4 3 rfl) ?_
        refine lv_iload_n hx hb (dk_at dkX12_door_4 4 rfl) rfl (lv_at hl 0 rfl) ?_
        refine lv_iload_n hx hb (dk_at dkX12_door_4 5 rfl) rfl (lv_at hl 2 rfl) ?_
        refine x_zast hx hb hK hP hDD hS 8 3 wm8 rfl (by omega) (by decide) (dk_at dkX12_door_4 6 rfl) (by omega) ws8 (fun H locs hP hS => ?_)
        have hI := hI.st (j := 8) (i := (10 * (A 0 47) + z63).toNat) (v := 1) (show (0 : Int) ≤ 1 ∧ 1 ≤ 1 from (by omega))
        refine lv_aload_n hx hb (dk_at dkX12_door_4 7 rfl) rfl (lv_at hl 1 rfl) ?_
        refine va_get (D := (dC, dI)) (ci := 12) (v := .ref (q 9)) (C := RX12) (T := TX12) (N := 85) hx hb hts hiX12 hown hK hP 0 wm0 rfl 20 (by decide) (hts _ (List.mem_cons_of_mem _ wlq_2_42)) (fun _ h9 => h9) rfl (dk_at dkX12_door_4 8 rfl) ?_
        refine lv_iload_n hx hb (dk_at dkX12_door_4 9 rfl) rfl (lv_at hl 0 rfl) ?_
        refine lv_iload_n hx hb (dk_at dkX12_door_4 10 rfl) rfl (lv_at hl 2 rfl) ?_
        obtain ⟨A84, hA84⟩ : ∃ A84 : St, A84 = (stA (stA A80 7 (10 * (A 0 47) + z63).toNat z83) 8 (10 * (A 0 47) + z63).toNat 1) := ⟨_, rfl⟩
        rw [← hA84] at hP hI
        refine lv_if_eq (tgt := 136) hx hb (dk_at dkX12_door_4 11 rfl) (by decide) (fun c85 => absurd c85 (by decide +kernel)) (fun _ => ?_)
        refine lv_iconst (v := iI 0) hx hb (dk_at dkX12_door_4 12 rfl) (by decide +kernel) ?_
        refine lv_goto (tgt := 143) hx hb (dk_at dkX12_door_4 13 rfl) (by decide) ?_
        refine x_iast hx hb hK hP hDD hS 9 1 wm9 rfl (by omega) (by decide) (dk_at dkX12_door_5 2 rfl) ws9 (fun H locs hP hS => ?_)
        have hI := hI.st (j := 9) (i := (10 * (A 0 47) + z63).toNat) (v := 0) (show (-2147483648 : Int) ≤ 0 ∧ 0 ≤ 2147483647 from (by omega))
        refine lv_aload_n hx hb (dk_at dkX12_door_5 3 rfl) rfl (lv_at hl 1 rfl) ?_
        refine va_get (D := (dC, dI)) (ci := 12) (v := .ref (q 10)) (C := RX12) (T := TX12) (N := 85) hx hb hts hiX12 hown hK hP 0 wm0 rfl 21 (by decide) (hts _ (List.mem_cons_of_mem _ wlq_2_43)) (fun _ h9 => h9) rfl (dk_at dkX12_door_5 4 rfl) ?_
        refine lv_iload_n hx hb (dk_at dkX12_door_5 5 rfl) rfl (lv_at hl 0 rfl) ?_
        refine lv_iconst (v := iI 0) hx hb (dk_at dkX12_door_5 6 rfl) (by decide +kernel) ?_
        refine x_zast hx hb hK hP hDD hS 10 3 wm10 rfl (by omega) (by decide) (dk_at dkX12_door_5 7 rfl) (by omega) ws10 (fun H locs hP hS => ?_)
        have hI := hI.st (j := 10) (i := (10 * (A 0 47) + z63).toNat) (v := 0) (show (0 : Int) ≤ 0 ∧ 0 ≤ 1 from (by omega))
        refine lv_aload_n hx hb (dk_at dkX12_door_5 8 rfl) rfl (lv_at hl 1 rfl) ?_
        have e_A80_8 : A80 0 8 = (A76 0 8) := by rw [hA80]; exact rfl
        have e_A84_8 : A84 0 8 = (A76 0 8) := by rw [hA84]; exact e_A80_8
        refine va_get (D := (dC, dI)) (ci := 12) (v := .int (iI (A84 0 8))) (C := RX12) (T := TX12) (N := 85) hx hb hts hiX12 hown hK hP 0 wm0 rfl 8 (by decide) (hts _ (List.mem_cons_of_mem _ wlq_0_16)) (fun _ h9 => h9) rfl (dk_at dkX12_door_5 9 rfl) ?_
        refine tp_i (y := iI (A76 0 8)) (congrArg iI e_A84_8) ?_
        refine lv_if_ne (tgt := 171) hx hb (dk_at dkX12_door_5 10 rfl) (by decide) (fun c86 => ?_) (fun c86 => ?_)
        · have c86 : ¬ (A76 0 8) = 0 := mt (i_eq0 (rb r_A76_0_8 (by decide) (by decide))).mpr c86
          obtain ⟨A87, hA87⟩ : ∃ A87 : St, A87 = (stA (stA A84 9 (10 * (A 0 47) + z63).toNat 0) 10 (10 * (A 0 47) + z63).toNat 0) := ⟨_, rfl⟩
          rw [← hA87] at hP hI
          have e_A80_4 : A80 0 4 = (A76 0 4) := by rw [hA80]; exact rfl
          have e_A84_4 : A84 0 4 = (A76 0 4) := by rw [hA84]; exact e_A80_4
          have e_A87_4 : A87 0 4 = (A76 0 4) := by rw [hA87]; exact e_A84_4
          have e_A87_8 : A87 0 8 = (A76 0 8) := by rw [hA87]; exact e_A84_8
          exact RET _ _ _ _ _ ⟨hk2 _ (u_d_X12_door_2 ⟨f55, ⟨z57, A58, ghw59, (Or.inl ⟨c62, ⟨z63, gz63.out, ⟨z64, A65, ghw66, ⟨A69, hA69, ⟨A71, ghw72, ⟨z75, A76, ghw77, ⟨A80, hA80, ⟨z83, gz83.out, ⟨A84, hA84, (Or.inl ⟨c86, ⟨A87, hA87, rfl⟩⟩)⟩⟩⟩⟩⟩⟩⟩⟩⟩)⟩⟩), hI, fr_def hA87 (fr.st (fr.st (fr_def hA84 (fr.st (fr.st (fr_def hA80 (fr.st (fr.trans (fr.trans (fr_def hA69 (fr.st (fr.trans (fr.trans (fr.rf) hf60 rfl rfl) hf67 rfl rfl) (by decide) rfl)) hf73 rfl rfl) hf78 rfl rfl) (by decide) rfl)) (by decide) rfl) (by decide) rfl)) (by decide) rfl) (by decide) rfl), (CB.fr (CB.fr (CB.fr hc79 (fr_def hA80 (fr.st (fr.rf (M := [6]) (N := [])) (by decide) rfl)) rfl rfl) (fr_def hA84 (fr.st (fr.st (fr.rf (M := [7, 8]) (N := [])) (by decide) rfl) (by decide) rfl)) rfl rfl) (fr_def hA87 (fr.st (fr.st (fr.rf (M := [9, 10]) (N := [])) (by decide) rfl) (by decide) rfl)) rfl rfl), by omega⟩ hP hS (dk_at dkX12_door_6 4 rfl)
        · have c86 : (A76 0 8) = 0 := (i_eq0 (rb r_A76_0_8 (by decide) (by decide))).mp c86
          refine lv_aload_n hx hb (dk_at dkX12_door_5 11 rfl) rfl (lv_at hl 1 rfl) ?_
          refine va_get (D := (dC, dI)) (ci := 12) (v := .ref (q 4)) (C := RX12) (T := TX12) (N := 85) hx hb hts hiX12 hown hK hP 0 wm0 rfl 15 (by decide) (hts _ (List.mem_cons_of_mem _ wlq_1_13)) (fun _ h9 => h9) rfl (dk_at dkX12_door_5 12 rfl) ?_
          refine lv_aload_n hx hb (dk_at dkX12_door_5 13 rfl) rfl (lv_at hl 1 rfl) ?_
          have e_A76_47 : A76 0 47 = (A 0 47) := (hf78.2 47 rfl).trans e_A71_47
          have e_A80_47 : A80 0 47 = (A 0 47) := by rw [hA80]; exact e_A76_47
          have e_A84_47 : A84 0 47 = (A 0 47) := by rw [hA84]; exact e_A80_47
          refine va_get (D := (dC, dI)) (ci := 12) (v := .int (iI (A84 0 47))) (C := RX12) (T := TX12) (N := 85) hx hb hts hiX12 hown hK hP 0 wm0 rfl 47 (by decide) (hts _ (List.mem_cons_of_mem _ wlq_1_12)) (fun _ h9 => h9) rfl (dk_at dkX12_door_5 14 rfl) ?_
          refine tp_i (y := iI (A 0 47)) (congrArg iI e_A84_47) ?_
          refine lv_dup2_11 hx hb (dk_at dkX12_door_5 15 rfl) rfl rfl ?_
          have a_A65_4 : A65 4 = A 4 := (hf67.1 4 (by decide) rfl).trans a_A58_4
          have a_A69_4 : A69 4 = A 4 := by rw [hA69]; exact a_A65_4
          have a_A71_4 : A71 4 = A 4 := (hf73.1 4 (by decide) rfl).trans a_A69_4
          have a_A76_4 : A76 4 = A 4 := (hf78.1 4 (by decide) rfl).trans a_A71_4
          have a_A80_4 : A80 4 = A 4 := by rw [hA80]; exact a_A76_4
          have a_A84_4 : A84 4 = A 4 := by rw [hA84]; exact a_A80_4
          refine x_iald hx hb hK hP 4 1 wm4 rfl (by omega) (by decide) (dk_at dkX12_door_6 0 rfl) (fun z88 hz88 => ?_)
          have rz88 : (0 : Int) ≤ z88 ∧ z88 ≤ 10 := by rw [hz88]; exact hI 4 _
          have gz88 := Hd.mk hz88
          have hz88 : z88 = A 4 ((A 0 47)).toNat := hz88.trans (congrFun a_A84_4 _)
          have ez88 : z88 = z50 := hz88.trans hz50.symm
          refine lv_iconst (v := iI 1) hx hb (dk_at dkX12_door_6 1 rfl) (by decide +kernel) ?_
          refine x_addv (v := z88 + 1) hx hb (dk_at dkX12_door_6 2 rfl) (by omega) ?_
          refine x_iast hx hb hK hP hDD hS 4 1 wm4 rfl (by omega) (by decide) (dk_at dkX12_door_6 3 rfl) ws4 (fun H locs hP hS => ?_)
          have hI := hI.st (j := 4) (i := ((A 0 47)).toNat) (v := z88 + 1) (show (0 : Int) ≤ z88 + 1 ∧ z88 + 1 ≤ 10 from (by omega))
          obtain ⟨A89, hA89⟩ : ∃ A89 : St, A89 = (stA (stA (stA A84 9 (10 * (A 0 47) + z63).toNat 0) 10 (10 * (A 0 47) + z63).toNat 0) 4 ((A 0 47)).toNat (z88 + 1)) := ⟨_, rfl⟩
          rw [← hA89] at hP hI
          have e_A80_4 : A80 0 4 = (A76 0 4) := by rw [hA80]; exact rfl
          have e_A84_4 : A84 0 4 = (A76 0 4) := by rw [hA84]; exact e_A80_4
          have e_A89_4 : A89 0 4 = (A76 0 4) := by rw [hA89]; exact e_A84_4
          have e_A89_8 : A89 0 8 = (A76 0 8) := by rw [hA89]; exact e_A84_8
          exact RET _ _ _ _ _ ⟨hk2 _ (u_d_X12_door_2 ⟨f55, ⟨z57, A58, ghw59, (Or.inl ⟨c62, ⟨z63, gz63.out, ⟨z64, A65, ghw66, ⟨A69, hA69, ⟨A71, ghw72, ⟨z75, A76, ghw77, ⟨A80, hA80, ⟨z83, gz83.out, ⟨A84, hA84, (Or.inr ⟨c86, ⟨z88, gz88.out, ⟨A89, hA89, rfl⟩⟩⟩)⟩⟩⟩⟩⟩⟩⟩⟩⟩)⟩⟩), hI, fr_def hA89 (fr.st (fr.st (fr.st (fr_def hA84 (fr.st (fr.st (fr_def hA80 (fr.st (fr.trans (fr.trans (fr_def hA69 (fr.st (fr.trans (fr.trans (fr.rf) hf60 rfl rfl) hf67 rfl rfl) (by decide) rfl)) hf73 rfl rfl) hf78 rfl rfl) (by decide) rfl)) (by decide) rfl) (by decide) rfl)) (by decide) rfl) (by decide) rfl) (by decide) rfl), (CB.fr (CB.fr (CB.fr hc79 (fr_def hA80 (fr.st (fr.rf (M := [6]) (N := [])) (by decide) rfl)) rfl rfl) (fr_def hA84 (fr.st (fr.st (fr.rf (M := [7, 8]) (N := [])) (by decide) rfl) (by decide) rfl)) rfl rfl) (fr_def hA89 (fr.st (fr.st (fr.st (fr.rf (M := [4, 9, 10]) (N := [])) (by decide) rfl) (by decide) rfl) (by decide) rfl)) rfl rfl), by omega⟩ hP hS (dk_at dkX12_door_6 4 rfl)
      · have c62 : z57 = 0 := (i_eq0 (rb rz57 (by decide) (by decide))).mp c62
        exact RET _ _ _ _ _ ⟨hk2 _ (u_d_X12_door_2 ⟨f55, ⟨z57, A58, ghw59, (Or.inr ⟨c62, rfl⟩)⟩⟩), hI, fr.trans (fr.rf) hf60 rfl rfl, hc61, by omega⟩ hP hS (dk_at dkX12_door_0 13 rfl)
    refine lv_icmp_ne (tgt := 19) hx hb (dk_at dkX12_door_0 7 rfl) (by decide) (fun c51 => ?_) (fun c51 => ?_)
    · have c51 : ¬ z50 = 10 := mt (i_eq (rb rz50 (by decide) (by decide)) ⟨by decide, by decide⟩).mpr c51
      refine lv_iconst (v := iI 0) hx hb (dk_at dkX12_door_0 10 rfl) (by decide +kernel) ?_
      exact J20_52 0 _ _ _ (by omega) (by omega) (fun uq hq => (u_r_X12_door (Or.inr ⟨rfl, ⟨z50, gz50.out, (Or.inl ⟨c51, hq⟩)⟩⟩))) hP hS (lv_sub hl [0, 1] rfl)
    · have c51 : z50 = 10 := (i_eq (rb rz50 (by decide) (by decide)) ⟨by decide, by decide⟩).mp c51
      refine lv_iconst (v := iI 1) hx hb (dk_at dkX12_door_0 8 rfl) (by decide +kernel) ?_
      refine lv_goto (tgt := 20) hx hb (dk_at dkX12_door_0 9 rfl) (by decide) ?_
      exact J20_52 1 _ _ _ (by omega) (by omega) (fun uq hq => (u_r_X12_door (Or.inr ⟨rfl, ⟨z50, gz50.out, (Or.inr ⟨c51, hq⟩)⟩⟩))) hP hS (lv_sub hl [0, 1] rfl)
/-! Wants: at most two a person. -/
theorem ct_out {f : Nat → Int} {s i : Nat} {p v : Int} : ∀ n, (i < s ∨ s + n ≤ i) → ct (up f i v) s p n = ct f s p n
  | 0, _ => rfl
  | n + 1, h => by
    have ih := ct_out (f := f) (s := s) (i := i) (p := p) (v := v) n (by omega)
    show ct (up f i v) s p n + (if up f i v (s + n) = p then 1 else 0) = ct f s p n + (if f (s + n) = p then 1 else 0)
    rw [ih, up_ne _ _ (show s + n ≠ i by omega)]
theorem ct_stepI {f : Nat → Int} {p b i m m' : Int} (hb : 0 ≤ b) (hi : b ≤ i) (h : m = ct f b.toNat p (i - b).toNat) (hm : (f i.toNat = p ∧ m' = m + 1) ∨ (¬ f i.toNat = p ∧ m' = m)) : m' = ct f b.toNat p (i + 1 - b).toNat := by
  have e : (i + 1 - b).toNat = (i - b).toNat + 1 := by omega
  have e2 : b.toNat + (i - b).toNat = i.toNat := by omega
  rw [e]
  show m' = ct f b.toNat p (i - b).toNat + (if f (b.toNat + (i - b).toNat) = p then 1 else 0)
  rw [e2, ← h]
  rcases hm with ⟨h1, h2⟩ | ⟨h1, h2⟩
  · rw [if_pos h1, h2]
  · rw [if_neg h1, h2]
    omega
theorem WI.le {A : St} (h : WI A) {b : Int} (hb : 0 ≤ b ∧ b ≤ 1) (p : Int) : ct (A 23) (6 * b).toNat p (A 22 b.toNat).toNat ≤ 2 := by
  rcases (show b = 0 ∨ b = 1 by omega) with rfl | rfl
  · exact (h p).1
  · exact (h p).2
theorem WI.skip {A B : St} {b k z : Int} (h : WI A) (hd : B = stA A 23 k.toNat z) (hb : 0 ≤ b ∧ b ≤ 1) (hk : k = 6 * b + A 22 b.toNat) (h0 : 0 ≤ A 22 0 ∧ A 22 0 ≤ 6) (h1 : 0 ≤ A 22 1 ∧ A 22 1 ≤ 6) (h5 : A 22 b.toNat ≤ 5) : WI B := by
  subst hd
  intro p
  have e22 : stA A 23 k.toNat z 22 = A 22 := stA_ne _ _ (by decide)
  have e23 : stA A 23 k.toNat z 23 = up (A 23) k.toNat z := stA_same _ _ _ _
  rw [e22, e23]
  rcases (show b = 0 ∨ b = 1 by omega) with rfl | rfl
  · have hk' : k = A 22 0 := by rw [hk]; simp
    have h5' : A 22 0 ≤ 5 := h5
    rw [ct_out _ (by omega), ct_out _ (by omega)]
    exact h p
  · have hk' : k = 6 + A 22 1 := by rw [hk]; simp
    rw [ct_out _ (by omega), ct_out _ (by omega)]
    exact h p
theorem WI.inc {A P B : St} {b n z p m k : Int} (h : WI P) (e23 : P 23 = up (A 23) k.toNat z) (hk : k = 6 * b + n) (hb : 0 ≤ b ∧ b ≤ 1) (hn : P 22 b.toNat = n) (hn6 : 0 ≤ n ∧ n ≤ 5) (hB : B = stA P 22 b.toNat (n + 1)) (hm : m = ct (A 23) (6 * b).toNat p n.toNat) (hpz : p = z) (hm1 : m ≤ 1) : WI B := by
  subst hB
  subst hpz
  intro r
  have hr := h r
  have e22 : stA P 22 b.toNat (n + 1) 22 = up (P 22) b.toNat (n + 1) := stA_same _ _ _ _
  have e23' : stA P 22 b.toNat (n + 1) 23 = P 23 := stA_ne _ _ (by decide)
  rw [e22, e23']
  have key : ∀ s : Nat, s = (6 * b).toNat → ct (P 23) s r n.toNat ≤ 2 → ct (P 23) s r (n + 1).toNat ≤ 2 := by
    intro s hs h2
    have e1 : (n + 1).toNat = n.toNat + 1 := by omega
    rw [e1]
    show ct (P 23) s r n.toNat + (if P 23 (s + n.toNat) = r then 1 else 0) ≤ 2
    have e2 : s + n.toNat = k.toNat := by omega
    rw [e2]
    have e3 : P 23 k.toNat = p := by rw [e23, up_same]
    rw [e3]
    by_cases hpr : p = r
    · subst hpr
      rw [if_pos rfl, e23, ct_out _ (by omega), hs, ← hm]
      omega
    · rw [if_neg hpr]
      omega
  rcases (show b = 0 ∨ b = 1 by omega) with rfl | rfl
  · have hn' : P 22 0 = n := hn
    refine ⟨?_, ?_⟩
    · show ct (P 23) 0 r (up (P 22) 0 (n + 1) 0).toNat ≤ 2
      rw [up_same]
      exact key 0 rfl (by rw [← hn']; exact hr.1)
    · show ct (P 23) 6 r (up (P 22) 0 (n + 1) 1).toNat ≤ 2
      rw [up_ne _ _ (by decide)]
      exact hr.2
  · have hn' : P 22 1 = n := hn
    refine ⟨?_, ?_⟩
    · show ct (P 23) 0 r (up (P 22) 1 (n + 1) 0).toNat ≤ 2
      rw [up_ne _ _ (by decide)]
      exact hr.1
    · show ct (P 23) 6 r (up (P 22) 1 (n + 1) 1).toNat ≤ 2
      rw [up_same]
      exact key 6 rfl (by rw [← hn']; exact hr.2)
theorem rd22 {A B : St} {i : Nat} {v : Int} {k : Nat} (h : B = stA A 23 i v) : B 22 k = A 22 k := by rw [h, stA_ne _ _ (by decide)]
theorem dkX12_shutting_0 : dkq cX12_shutting [(0, .aload_n 0, 1), (1, .iconst 0, 1), (2, .invokevirtual 394, 3), (5, .ifCond .ne 4, 3), (8, .return_, 1), (9, .aload_n 0, 1), (10, .iconst 1, 1), (11, .invokevirtual 406, 3), (14, .istore_n 1, 1), (15, .aload_n 0, 1), (16, .ldc2_w 314, 3), (19, .invokevirtual 402, 3), (22, .aload_n 0, 1), (23, .getfield 36, 3), (26, .ifCond .ne 34, 3), (29, .aload_n 0, 1)] = true := by decide +kernel
theorem dkX12_shutting_1 : dkq cX12_shutting [(30, .getfield 20, 3), (33, .iconst 1, 1), (34, .if_icmp .ne 26, 3), (37, .aload_n 0, 1), (38, .aload_n 0, 1), (39, .getfield 32, 3), (42, .invokevirtual 387, 3), (45, .ifCond .ne 15, 3), (48, .aload_n 0, 1), (49, .iconst 2, 1), (50, .aload_n 0, 1), (51, .getfield 32, 3), (54, .invokevirtual 390, 3), (57, .goto 4, 3), (60, .iconst (-1), 1), (61, .istore_n 2, 1)] = true := by decide +kernel
theorem dkX12_shutting_2 : dkq cX12_shutting [(62, .iload_n 2, 1), (63, .iconst (-1), 1), (64, .if_icmp .eq 46, 3), (67, .aload_n 0, 1), (68, .iconst 4, 1), (69, .aload_n 0, 1), (70, .getfield 155, 3), (73, .imul, 1), (74, .iload_n 2, 1), (75, .iadd, 1), (76, .iload_n 1, 1), (77, .invokevirtual 419, 3), (80, .ifCond .ne 21, 3), (83, .aload_n 0, 1), (84, .getfield 89, 3), (87, .iconst 4, 1)] = true := by decide +kernel
theorem dkX12_shutting_3 : dkq cX12_shutting [(88, .aload_n 0, 1), (89, .getfield 155, 3), (92, .imul, 1), (93, .iload_n 2, 1), (94, .iadd, 1), (95, .iaload, 1), (96, .bipush 6, 2), (98, .if_icmp .ne 12, 3), (101, .aload_n 0, 1), (102, .iconst 3, 1), (103, .aload_n 0, 1), (104, .getfield 23, 3), (107, .invokevirtual 286, 3), (110, .iconst 4, 1), (111, .aload_n 0, 1), (112, .getfield 155, 3)] = true := by decide +kernel
theorem dkX12_shutting_4 : dkq cX12_shutting [(115, .imul, 1), (116, .aload_n 0, 1), (117, .iconst 2, 1), (118, .invokevirtual 406, 3), (121, .iadd, 1), (122, .istore_n 2, 1), (123, .aload_n 0, 1), (124, .getfield 36, 3), (127, .ifCond .le 4, 3), (130, .return_, 1), (131, .aload_n 0, 1), (132, .getfield 92, 3), (135, .bipush 10, 2), (137, .iload_n 2, 1), (138, .imul, 1), (139, .aload_n 0, 1)] = true := by decide +kernel
theorem dkX12_shutting_5 : dkq cX12_shutting [(140, .getfield 89, 3), (143, .iload_n 2, 1), (144, .iaload, 1), (145, .iadd, 1), (146, .iload_n 1, 1), (147, .iastore, 1), (148, .aload_n 0, 1), (149, .getfield 89, 3), (152, .iload_n 2, 1), (153, .dup2, 1), (154, .iaload, 1), (155, .iconst 1, 1), (156, .iadd, 1), (157, .iastore, 1), (158, .return_, 1)] = true := by decide +kernel
abbrev tr_r_X12_shutting (A : St) (u : St) : Prop := (∃ z1 : Int, ∃ A2 : St, q_X12_counts 0 A z1 A2 ∧ (((¬ z1 = 0) ∧ (∃ z7 : Int, ∃ A8 : St, q_X12_asked_1 1 A2 z7 A8 ∧ (∃ A12 : St, q_X12_must_ 25209 A8 A12 ∧ (((¬ (A12 0 8) = 0) ∧ (∃ z18 : Int, ∃ A19 : St, q_X12_asked_2 2 A12 z18 A19 ∧ ((((A19 0 8) ≤ 0) ∧ (∃ z24 : Int, z24 = A19 14 (4 * (A 0 47) + z18).toNat ∧ (∃ z25 : Int, z25 = (stA A19 15 (40 * (A 0 47) + 10 * z18 + z24).toNat z7) 14 (4 * (A 0 47) + z18).toNat ∧ (∃ A26 : St, A26 = (stA (stA A19 15 (40 * (A 0 47) + 10 * z18 + z24).toNat z7) 14 (4 * (A 0 47) + z18).toNat (z25 + 1)) ∧ (u = A26))))) ∨ ((¬ (A19 0 8) ≤ 0) ∧ (u = A19))))) ∨ (((A12 0 8) = 0) ∧ (((¬ (A12 0 3) = 1) ∧ (∃ z29 : Int, ∃ A30 : St, q_X12_asked_2 2 A12 z29 A30 ∧ ((((A30 0 8) ≤ 0) ∧ (∃ z35 : Int, z35 = A30 14 (4 * (A 0 47) + z29).toNat ∧ (∃ z36 : Int, z36 = (stA A30 15 (40 * (A 0 47) + 10 * z29 + z35).toNat z7) 14 (4 * (A 0 47) + z29).toNat ∧ (∃ A37 : St, A37 = (stA (stA A30 15 (40 * (A 0 47) + 10 * z29 + z35).toNat z7) 14 (4 * (A 0 47) + z29).toNat (z36 + 1)) ∧ (u = A37))))) ∨ ((¬ (A30 0 8) ≤ 0) ∧ (u = A30))))) ∨ (((A12 0 3) = 1) ∧ (∃ z38 : Int, q_X12_isOwn (A12 0 7) A12 z38 ∧ (((¬ z38 = 0) ∧ (∃ z43 : Int, ∃ A44 : St, q_X12_asked_2 2 A12 z43 A44 ∧ ((((A44 0 8) ≤ 0) ∧ (∃ z49 : Int, z49 = A44 14 (4 * (A 0 47) + z43).toNat ∧ (∃ z50 : Int, z50 = (stA A44 15 (40 * (A 0 47) + 10 * z43 + z49).toNat z7) 14 (4 * (A 0 47) + z43).toNat ∧ (∃ A51 : St, A51 = (stA (stA A44 15 (40 * (A 0 47) + 10 * z43 + z49).toNat z7) 14 (4 * (A 0 47) + z43).toNat (z50 + 1)) ∧ (u = A51))))) ∨ ((¬ (A44 0 8) ≤ 0) ∧ (u = A44))))) ∨ ((z38 = 0) ∧ (∃ z52 : Int, q_X12_named_2 2 (A12 0 7) A12 z52 ∧ (((z52 = (-1)) ∧ (∃ z56 : Int, ∃ A57 : St, q_X12_asked_2 2 A12 z56 A57 ∧ ((((A57 0 8) ≤ 0) ∧ (∃ z62 : Int, z62 = A57 14 (4 * (A 0 47) + z56).toNat ∧ (∃ z63 : Int, z63 = (stA A57 15 (40 * (A 0 47) + 10 * z56 + z62).toNat z7) 14 (4 * (A 0 47) + z56).toNat ∧ (∃ A64 : St, A64 = (stA (stA A57 15 (40 * (A 0 47) + 10 * z56 + z62).toNat z7) 14 (4 * (A 0 47) + z56).toNat (z63 + 1)) ∧ (u = A64))))) ∨ ((¬ (A57 0 8) ≤ 0) ∧ (u = A57))))) ∨ ((¬ z52 = (-1)) ∧ (∃ z65 : Int, q_X12_isInRow (4 * (A 0 47) + z52) z7 A12 z65 ∧ (((¬ z65 = 0) ∧ (∃ A69 : St, q_X12_blame 3 (A12 0 4) A12 A69 ∧ (∃ z72 : Int, ∃ A73 : St, q_X12_asked_2 2 A69 z72 A73 ∧ ((((A73 0 8) ≤ 0) ∧ (∃ z78 : Int, z78 = A73 14 (4 * (A 0 47) + z72).toNat ∧ (∃ z79 : Int, z79 = (stA A73 15 (40 * (A 0 47) + 10 * z72 + z78).toNat z7) 14 (4 * (A 0 47) + z72).toNat ∧ (∃ A80 : St, A80 = (stA (stA A73 15 (40 * (A 0 47) + 10 * z72 + z78).toNat z7) 14 (4 * (A 0 47) + z72).toNat (z79 + 1)) ∧ (u = A80))))) ∨ ((¬ (A73 0 8) ≤ 0) ∧ (u = A73)))))) ∨ ((z65 = 0) ∧ (∃ z81 : Int, z81 = A12 14 (4 * (A 0 47) + z52).toNat ∧ (((¬ z81 = 6) ∧ (∃ z83 : Int, ∃ A84 : St, q_X12_asked_2 2 A12 z83 A84 ∧ ((((A84 0 8) ≤ 0) ∧ (∃ z89 : Int, z89 = A84 14 (4 * (A 0 47) + z83).toNat ∧ (∃ z90 : Int, z90 = (stA A84 15 (40 * (A 0 47) + 10 * z83 + z89).toNat z7) 14 (4 * (A 0 47) + z83).toNat ∧ (∃ A91 : St, A91 = (stA (stA A84 15 (40 * (A 0 47) + 10 * z83 + z89).toNat z7) 14 (4 * (A 0 47) + z83).toNat (z90 + 1)) ∧ (u = A91))))) ∨ ((¬ (A84 0 8) ≤ 0) ∧ (u = A84))))) ∨ ((z81 = 6) ∧ (∃ A92 : St, q_X12_blame 3 (A12 0 4) A12 A92 ∧ (∃ z95 : Int, ∃ A96 : St, q_X12_asked_2 2 A92 z95 A96 ∧ ((((A96 0 8) ≤ 0) ∧ (∃ z101 : Int, z101 = A96 14 (4 * (A 0 47) + z95).toNat ∧ (∃ z102 : Int, z102 = (stA A96 15 (40 * (A 0 47) + 10 * z95 + z101).toNat z7) 14 (4 * (A 0 47) + z95).toNat ∧ (∃ A103 : St, A103 = (stA (stA A96 15 (40 * (A 0 47) + 10 * z95 + z101).toNat z7) 14 (4 * (A 0 47) + z95).toNat (z102 + 1)) ∧ (u = A103))))) ∨ ((¬ (A96 0 8) ≤ 0) ∧ (u = A96)))))))))))))))))))))))) ∨ ((z1 = 0) ∧ (u = A2))))
def r_X12_shutting (A : St) (u : St) : Prop := tr_r_X12_shutting A u
theorem u_r_X12_shutting {A : St} {u : St} (h : tr_r_X12_shutting A u) : r_X12_shutting A u := h
def q_X12_shutting (A : St) (u : St) : Prop := r_X12_shutting A u ∧ IM u ∧ fr [14, 15] [3, 4, 5, 6, 7, 8, 9] A u ∧ CB u ∧ ((u 0 8 = 0 → A 0 5 ≤ u 0 4) ∧ A 0 4 ≤ u 0 4)
def ws_mb_X12_shutting : List Cond := .code yX12_shutting cX12_shutting 3 none :: WX
set_option maxHeartbeats 4000000 in
set_option maxRecDepth 100000 in
theorem mb_X12_shutting (l : Launch) (dC : Nat → ClassId) (dI : Nat → Nat → Nat) (cB cI cJ cZ cQ : ClassId) (q : Nat → Nat) (A : St) (hI : IM A) (hcCB : CB A) : XMv l yX12_shutting ws_mb_X12_shutting ({ frames := 3, cells := 0, slots := 0, locals := 70 } : Room) (dC, dI) (tyA cB cI cJ cZ cQ) (WM cI cJ cZ q) A [.ref (q 0)] (fun u => r_X12_shutting A u ∧ IM u ∧ fr [14, 15] [3, 4, 5, 6, 7, 8, 9] A u ∧ CB u ∧ ((u 0 8 = 0 → A 0 5 ≤ u 0 4) ∧ A 0 4 ≤ u 0 4)) := by
  refine x_metv (cc := cX12_shutting) (maxL := 3) WM_adr (by decide +kernel) rfl (Nat.le_of_ble_eq_true rfl) (fun p e s m below meth c Q AS ls hx hb hml hown hts hK hDD hA0 hP hS hl RET => ?_)
  have hown : s.vm.findClass RX12 = some m.cls := hown
  have hl : lv_has ls 3 [(0, .ref (q 0))] := hl
  have hiX12 : ∀ w ∈ u_ws RX12 TX12 85, w ∈ ws_mb_X12_shutting := fun w h => List.mem_cons_of_mem _ (wx_lay w h)
  obtain ⟨H, hHe⟩ : ∃ H : Heap, H = s.heap := ⟨_, rfl⟩
  rw [← hHe] at hP
  have hS : va_S AS s.heap H [] := by rw [hHe]; exact hS
  suffices hgo : ∀ locs : List Loc, va_S AS s.heap H locs → W p l e (headSpec ws_mb_X12_shutting ({ frames := 3, cells := 0, slots := 0, locals := 70 } : Room)).room s m [.ref (q 0)].toArray below meth c H locs 0 0 Q (F0 m 0 ls []) by
    have := hgo [] hS
    rw [hHe] at this
    exact this
  clear hS hHe
  intro locs hS
  have hle := CB.le hcCB
  refine lv_aload_n hx hb (dk_at dkX12_shutting_0 0 rfl) rfl (lv_at hl 0 rfl) ?_
  refine lv_iconst (v := iI 0) hx hb (dk_at dkX12_shutting_0 1 rfl) (by decide +kernel) ?_
  have r_A_0_4 : (0 : Int) ≤ (A 0 4) ∧ (A 0 4) ≤ 1600 := hI 0 4
  have r_A_0_5 : (0 : Int) ≤ (A 0 5) ∧ (A 0 5) ≤ 1600 := hI 0 5
  refine x_calli (As := [.int (iI 0)]) (rest := []) ⟨hx, hb, hml, hown, hts⟩ (mb_X12_counts l dC dI cB cI cJ cZ cQ q _ 0 hI ⟨by decide, by decide⟩ hcCB) (cwV 1 hts (goodV wlq_2_32 wlq_2_33 wlq_2_34 wlq_0_8 wlq_2_20) rfl rfl rfl (by decide +kernel) ⟨Nat.le_of_ble_eq_true rfl, Nat.le_of_ble_eq_true rfl⟩) hK hDD hA0 hP hS 0 12 wm0 rfl rfl hl.1 (Nat.le_of_ble_eq_true rfl) (dk_at dkX12_shutting_0 2 rfl) (fun z1 A2 H locs hw3 hP hS => ?_)
  have ghw3 : q_X12_counts 0 A z1 A2 := hw3
  obtain ⟨_, hI, hf4, hw3⟩ := hw3
  obtain ⟨hc5, hw3⟩ := hw3
  have r_A2_0_4 : (0 : Int) ≤ (A2 0 4) ∧ (A2 0 4) ≤ 1600 := hI 0 4
  have r_A2_0_8 : (0 : Int) ≤ (A2 0 8) ∧ (A2 0 8) ≤ 5 := hI 0 8
  have rz1 : 0 ≤ z1 ∧ z1 ≤ 1 := hw3.1
  refine lv_if_ne (tgt := 9) hx hb (dk_at dkX12_shutting_0 3 rfl) (by decide) (fun c6 => ?_) (fun c6 => ?_)
  · have c6 : ¬ z1 = 0 := mt (i_eq0 (rb rz1 (by decide) (by decide))).mpr c6
    refine lv_aload_n hx hb (dk_at dkX12_shutting_0 5 rfl) rfl (lv_at hl 0 rfl) ?_
    refine lv_iconst (v := iI 1) hx hb (dk_at dkX12_shutting_0 6 rfl) (by decide +kernel) ?_
    have r_A2_0_3 : (0 : Int) ≤ (A2 0 3) ∧ (A2 0 3) ≤ 3 := hI 0 3
    have r_A2_0_7 : (-9223372036854775808 : Int) ≤ (A2 0 7) ∧ (A2 0 7) ≤ 9223372036854775807 := hI 0 7
    have e_A2_47 : A2 0 47 = (A 0 47) := (hf4.2 47 rfl)
    have r_A_0_47 : (0 : Int) ≤ (A 0 47) ∧ (A 0 47) ≤ 1 := by rw [← e_A2_47]; exact hI 0 47
    refine x_calli (As := [.int (iI 1)]) (rest := []) ⟨hx, hb, hml, hown, hts⟩ (mb_X12_asked_1 l dC dI cB cI cJ cZ cQ q _ 1 hI ⟨by decide, by decide⟩ hc5) (cwV 1 hts (goodV wlq_2_47 wlq_2_48 wlq_2_49 wlq_0_8 wlq_2_29) rfl rfl rfl (by decide +kernel) ⟨Nat.le_of_ble_eq_true rfl, Nat.le_of_ble_eq_true rfl⟩) hK hDD hA0 hP hS 0 12 wm0 rfl rfl hl.1 (Nat.le_of_ble_eq_true rfl) (dk_at dkX12_shutting_0 7 rfl) (fun z7 A8 H locs hw9 hP hS => ?_)
    have ghw9 : q_X12_asked_1 1 A2 z7 A8 := hw9
    obtain ⟨_, hI, hf10, hw9⟩ := hw9
    obtain ⟨hc11, hw9⟩ := hw9
    have r_A8_0_4 : (0 : Int) ≤ (A8 0 4) ∧ (A8 0 4) ≤ 1600 := hI 0 4
    have r_A8_0_8 : (0 : Int) ≤ (A8 0 8) ∧ (A8 0 8) ≤ 5 := hI 0 8
    refine lv_istore_n (lv' := [(1, .int (iI z7)), (0, .ref (q 0))]) hx hb (dk_at dkX12_shutting_0 8 rfl) rfl hl (by decide) rfl (fun ls hl => ?_)
    refine lv_aload_n hx hb (dk_at dkX12_shutting_0 9 rfl) rfl (lv_at hl 1 rfl) ?_
    refine lv_ldc2 (v := 25209) hx hb hown (hts _ (List.mem_cons_of_mem _ wlq_0_53)) (dk_at dkX12_shutting_0 10 rfl) ?_
    refine tp_l (y := jI 25209) (by decide +kernel) ?_
    refine x_callv (As := [.long (jI 25209)]) (rest := []) ⟨hx, hb, hml, hown, hts⟩ (mb_X12_must_ l dC dI cB cI cJ cZ cQ q _ 25209 hI ⟨by decide, by decide⟩ hc11) (cwV 1 hts (goodV wlq_2_44 wlq_2_45 wlq_2_46 wlq_0_8 wlq_2_21) rfl rfl rfl (by decide +kernel) ⟨Nat.le_of_ble_eq_true rfl, Nat.le_of_ble_eq_true rfl⟩) hK hDD hA0 hP hS 0 12 wm0 rfl rfl hl.1 (Nat.le_of_ble_eq_true rfl) (dk_at dkX12_shutting_0 11 rfl) (fun A12 H locs hw13 hP hS => ?_)
    have ghw13 : q_X12_must_ 25209 A8 A12 := hw13
    obtain ⟨_, hI, hf14, hw13⟩ := hw13
    obtain ⟨hc15, hw13⟩ := hw13
    have r_A12_0_4 : (0 : Int) ≤ (A12 0 4) ∧ (A12 0 4) ≤ 1600 := hI 0 4
    refine lv_aload_n hx hb (dk_at dkX12_shutting_0 12 rfl) rfl (lv_at hl 1 rfl) ?_
    refine va_get (D := (dC, dI)) (ci := 12) (v := .int (iI (A12 0 8))) (C := RX12) (T := TX12) (N := 85) hx hb hts hiX12 hown hK hP 0 wm0 rfl 8 (by decide) (hts _ (List.mem_cons_of_mem _ wlq_0_16)) (fun _ h9 => h9) rfl (dk_at dkX12_shutting_0 13 rfl) ?_
    have r_A12_0_8 : (0 : Int) ≤ (A12 0 8) ∧ (A12 0 8) ≤ 5 := hI 0 8
    refine lv_if_ne (tgt := 60) hx hb (dk_at dkX12_shutting_0 14 rfl) (by decide) (fun c16 => ?_) (fun c16 => ?_)
    · have c16 : ¬ (A12 0 8) = 0 := mt (i_eq0 (rb r_A12_0_8 (by decide) (by decide))).mpr c16
      refine lv_iconst (v := iI (-1)) hx hb (dk_at dkX12_shutting_1 14 rfl) (by decide +kernel) ?_
      refine lv_istore_n (lv' := [(2, .int (iI (-1))), (1, .int (iI z7)), (0, .ref (q 0))]) hx hb (dk_at dkX12_shutting_1 15 rfl) rfl hl (by decide) rfl (fun ls hl => ?_)
      refine lv_iload_n hx hb (dk_at dkX12_shutting_2 0 rfl) rfl (lv_at hl 0 rfl) ?_
      refine lv_iconst (v := iI (-1)) hx hb (dk_at dkX12_shutting_2 1 rfl) (by decide +kernel) ?_
      refine lv_icmp_eq (tgt := 110) hx hb (dk_at dkX12_shutting_2 2 rfl) (by decide) (fun _ => ?_) (fun c17 => absurd c17 (by decide +kernel))
      refine lv_iconst (v := iI 4) hx hb (dk_at dkX12_shutting_3 13 rfl) (by decide +kernel) ?_
      refine lv_aload_n hx hb (dk_at dkX12_shutting_3 14 rfl) rfl (lv_at hl 2 rfl) ?_
      have e_A8_47 : A8 0 47 = (A 0 47) := (hf10.2 47 rfl).trans e_A2_47
      have e_A12_47 : A12 0 47 = (A 0 47) := (hf14.2 47 rfl).trans e_A8_47
      refine va_get (D := (dC, dI)) (ci := 12) (v := .int (iI (A12 0 47))) (C := RX12) (T := TX12) (N := 85) hx hb hts hiX12 hown hK hP 0 wm0 rfl 47 (by decide) (hts _ (List.mem_cons_of_mem _ wlq_1_12)) (fun _ h9 => h9) rfl (dk_at dkX12_shutting_3 15 rfl) ?_
      refine tp_i (y := iI (A 0 47)) (congrArg iI e_A12_47) ?_
      refine x_mulv (v := 4 * (A 0 47)) hx hb (dk_at dkX12_shutting_4 0 rfl) (by omega) ?_
      refine lv_aload_n hx hb (dk_at dkX12_shutting_4 1 rfl) rfl (lv_at hl 2 rfl) ?_
      refine lv_iconst (v := iI 2) hx hb (dk_at dkX12_shutting_4 2 rfl) (by decide +kernel) ?_
      have r_A12_0_3 : (0 : Int) ≤ (A12 0 3) ∧ (A12 0 3) ≤ 3 := hI 0 3
      have r_A12_0_7 : (-9223372036854775808 : Int) ≤ (A12 0 7) ∧ (A12 0 7) ≤ 9223372036854775807 := hI 0 7
      refine x_calli (As := [.int (iI 2)]) (rest := [.int (iI (4 * (A 0 47)))]) ⟨hx, hb, hml, hown, hts⟩ (mb_X12_asked_2 l dC dI cB cI cJ cZ cQ q _ 2 hI ⟨by decide, by decide⟩ hc15) (cwV 1 hts (goodV wlq_2_47 wlq_2_48 wlq_2_49 wlq_0_8 wlq_2_29) rfl rfl rfl (by decide +kernel) ⟨Nat.le_of_ble_eq_true rfl, Nat.le_of_ble_eq_true rfl⟩) hK hDD hA0 hP hS 0 12 wm0 rfl rfl hl.1 (Nat.le_of_ble_eq_true rfl) (dk_at dkX12_shutting_4 3 rfl) (fun z18 A19 H locs hw20 hP hS => ?_)
      have ghw20 : q_X12_asked_2 2 A12 z18 A19 := hw20
      obtain ⟨_, hI, hf21, hw20⟩ := hw20
      obtain ⟨hc22, hw20⟩ := hw20
      have r_A19_0_4 : (0 : Int) ≤ (A19 0 4) ∧ (A19 0 4) ≤ 1600 := hI 0 4
      have r_A19_0_8 : (0 : Int) ≤ (A19 0 8) ∧ (A19 0 8) ≤ 5 := hI 0 8
      refine x_addv (v := 4 * (A 0 47) + z18) hx hb (dk_at dkX12_shutting_4 4 rfl) (by omega) ?_
      refine lv_istore_n (lv' := [(2, .int (iI (4 * (A 0 47) + z18))), (1, .int (iI z7)), (0, .ref (q 0))]) hx hb (dk_at dkX12_shutting_4 5 rfl) rfl hl (by decide) rfl (fun ls hl => ?_)
      refine lv_aload_n hx hb (dk_at dkX12_shutting_4 6 rfl) rfl (lv_at hl 2 rfl) ?_
      refine va_get (D := (dC, dI)) (ci := 12) (v := .int (iI (A19 0 8))) (C := RX12) (T := TX12) (N := 85) hx hb hts hiX12 hown hK hP 0 wm0 rfl 8 (by decide) (hts _ (List.mem_cons_of_mem _ wlq_0_16)) (fun _ h9 => h9) rfl (dk_at dkX12_shutting_4 7 rfl) ?_
      refine lv_if_le (tgt := 131) hx hb (dk_at dkX12_shutting_4 8 rfl) (by decide) (fun c23 => ?_) (fun c23 => ?_)
      · have c23 : (A19 0 8) ≤ 0 := (i_le0 (rb r_A19_0_8 (by decide) (by decide))).mp c23
        have ga := hw20.2.2.2.out (by omega)
        have a_A2_12 : A2 12 = A 12 := (hf4.1 12 (by decide) rfl)
        have a_A8_12 : A8 12 = A 12 := (hf10.1 12 (by decide) rfl).trans a_A2_12
        have a_A12_12 : A12 12 = A 12 := (hf14.1 12 (by decide) rfl).trans a_A8_12
        have a_A2_11 : A2 11 = A 11 := (hf4.1 11 (by decide) rfl)
        have a_A8_11 : A8 11 = A 11 := (hf10.1 11 (by decide) rfl).trans a_A2_11
        have a_A12_11 : A12 11 = A 11 := (hf14.1 11 (by decide) rfl).trans a_A8_11
        rw [a_A12_12, a_A12_11, e_A12_47] at ga
        refine lv_aload_n hx hb (dk_at dkX12_shutting_4 10 rfl) rfl (lv_at hl 2 rfl) ?_
        refine va_get (D := (dC, dI)) (ci := 12) (v := .ref (q 15)) (C := RX12) (T := TX12) (N := 85) hx hb hts hiX12 hown hK hP 0 wm0 rfl 26 (by decide) (hts _ (List.mem_cons_of_mem _ wlq_3_7)) (fun _ h9 => h9) rfl (dk_at dkX12_shutting_4 11 rfl) ?_
        refine lv_bipush (v := iI 10) hx hb (dk_at dkX12_shutting_4 12 rfl) (by decide +kernel) ?_
        refine lv_iload_n hx hb (dk_at dkX12_shutting_4 13 rfl) rfl (lv_at hl 0 rfl) ?_
        refine x_mulv (v := 40 * (A 0 47) + 10 * z18) hx hb (dk_at dkX12_shutting_4 14 rfl) (by omega) ?_
        refine lv_aload_n hx hb (dk_at dkX12_shutting_4 15 rfl) rfl (lv_at hl 2 rfl) ?_
        refine va_get (D := (dC, dI)) (ci := 12) (v := .ref (q 14)) (C := RX12) (T := TX12) (N := 85) hx hb hts hiX12 hown hK hP 0 wm0 rfl 25 (by decide) (hts _ (List.mem_cons_of_mem _ wlq_2_59)) (fun _ h9 => h9) rfl (dk_at dkX12_shutting_5 0 rfl) ?_
        refine lv_iload_n hx hb (dk_at dkX12_shutting_5 1 rfl) rfl (lv_at hl 0 rfl) ?_
        have a_A2_14 : A2 14 = A 14 := (hf4.1 14 (by decide) rfl)
        have a_A8_14 : A8 14 = A 14 := (hf10.1 14 (by decide) rfl).trans a_A2_14
        have a_A12_14 : A12 14 = A 14 := (hf14.1 14 (by decide) rfl).trans a_A8_14
        have a_A19_14 : A19 14 = A 14 := (hf21.1 14 (by decide) rfl).trans a_A12_14
        refine x_iald hx hb hK hP 14 1 wm14 rfl (by omega) (by decide) (dk_at dkX12_shutting_5 2 rfl) (fun z24 hz24 => ?_)
        have rz24 : (0 : Int) ≤ z24 ∧ z24 ≤ 6 := by rw [hz24]; exact hI 14 _
        have gz24 := Hd.mk hz24
        have hz24 : z24 = A 14 (4 * (A 0 47) + z18).toNat := hz24.trans (congrFun a_A19_14 _)
        refine x_addv (v := 40 * (A 0 47) + 10 * z18 + z24) hx hb (dk_at dkX12_shutting_5 3 rfl) (by omega) ?_
        refine lv_iload_n hx hb (dk_at dkX12_shutting_5 4 rfl) rfl (lv_at hl 1 rfl) ?_
        refine x_iast hx hb hK hP hDD hS 15 1 wm15 rfl (by omega) (by decide) (dk_at dkX12_shutting_5 5 rfl) ws15 (fun H locs hP hS => ?_)
        have hI := hI.st (j := 15) (i := (40 * (A 0 47) + 10 * z18 + z24).toNat) (v := z7) (show (0 : Int) ≤ z7 ∧ z7 ≤ 9 from (by omega))
        refine lv_aload_n hx hb (dk_at dkX12_shutting_5 6 rfl) rfl (lv_at hl 2 rfl) ?_
        refine va_get (D := (dC, dI)) (ci := 12) (v := .ref (q 14)) (C := RX12) (T := TX12) (N := 85) hx hb hts hiX12 hown hK hP 0 wm0 rfl 25 (by decide) (hts _ (List.mem_cons_of_mem _ wlq_2_59)) (fun _ h9 => h9) rfl (dk_at dkX12_shutting_5 7 rfl) ?_
        refine lv_iload_n hx hb (dk_at dkX12_shutting_5 8 rfl) rfl (lv_at hl 0 rfl) ?_
        refine lv_dup2_11 hx hb (dk_at dkX12_shutting_5 9 rfl) rfl rfl ?_
        refine x_iald hx hb hK hP 14 1 wm14 rfl (by omega) (by decide) (dk_at dkX12_shutting_5 10 rfl) (fun z25 hz25 => ?_)
        have rz25 : (0 : Int) ≤ z25 ∧ z25 ≤ 6 := by rw [hz25]; exact hI 14 _
        have gz25 := Hd.mk hz25
        have hz25 : z25 = A 14 (4 * (A 0 47) + z18).toNat := hz25.trans (congrFun a_A19_14 _)
        have ez25 : z25 = z24 := hz25.trans hz24.symm
        refine lv_iconst (v := iI 1) hx hb (dk_at dkX12_shutting_5 11 rfl) (by decide +kernel) ?_
        refine x_addv (v := z25 + 1) hx hb (dk_at dkX12_shutting_5 12 rfl) (by omega) ?_
        refine x_iast hx hb hK hP hDD hS 14 1 wm14 rfl (by omega) (by decide) (dk_at dkX12_shutting_5 13 rfl) ws14 (fun H locs hP hS => ?_)
        have hI := hI.st (j := 14) (i := (4 * (A 0 47) + z18).toNat) (v := z25 + 1) (show (0 : Int) ≤ z25 + 1 ∧ z25 + 1 ≤ 6 from (by omega))
        obtain ⟨A26, hA26⟩ : ∃ A26 : St, A26 = (stA (stA A19 15 (40 * (A 0 47) + 10 * z18 + z24).toNat z7) 14 (4 * (A 0 47) + z18).toNat (z25 + 1)) := ⟨_, rfl⟩
        rw [← hA26] at hP hI
        have e_A26_4 : A26 0 4 = (A19 0 4) := by rw [hA26]; exact rfl
        have e_A26_8 : A26 0 8 = (A19 0 8) := by rw [hA26]; exact rfl
        exact RET _ _ _ _ _ ⟨(u_r_X12_shutting ⟨z1, A2, ghw3, (Or.inl ⟨c6, ⟨z7, A8, ghw9, ⟨A12, ghw13, (Or.inl ⟨c16, ⟨z18, A19, ghw20, (Or.inl ⟨c23, ⟨z24, gz24.out, ⟨z25, gz25.out, ⟨A26, hA26, rfl⟩⟩⟩⟩)⟩⟩)⟩⟩⟩)⟩), hI, fr_def hA26 (fr.st (fr.st (fr.trans (fr.trans (fr.trans (fr.trans (fr.rf) hf4 rfl rfl) hf10 rfl rfl) hf14 rfl rfl) hf21 rfl rfl) (by decide) rfl) (by decide) rfl), (CB.fr hc22 (fr_def hA26 (fr.st (fr.st (fr.rf (M := [14, 15]) (N := [])) (by decide) rfl) (by decide) rfl)) rfl rfl), by omega⟩ hP hS (dk_at dkX12_shutting_5 14 rfl)
      · have c23 : ¬ (A19 0 8) ≤ 0 := mt (i_le0 (rb r_A19_0_8 (by decide) (by decide))).mpr c23
        exact RET _ _ _ _ _ ⟨(u_r_X12_shutting ⟨z1, A2, ghw3, (Or.inl ⟨c6, ⟨z7, A8, ghw9, ⟨A12, ghw13, (Or.inl ⟨c16, ⟨z18, A19, ghw20, (Or.inr ⟨c23, rfl⟩)⟩⟩)⟩⟩⟩)⟩), hI, fr.trans (fr.trans (fr.trans (fr.trans (fr.rf) hf4 rfl rfl) hf10 rfl rfl) hf14 rfl rfl) hf21 rfl rfl, hc22, by omega⟩ hP hS (dk_at dkX12_shutting_4 9 rfl)
    · have c16 : (A12 0 8) = 0 := (i_eq0 (rb r_A12_0_8 (by decide) (by decide))).mp c16
      refine lv_aload_n hx hb (dk_at dkX12_shutting_0 15 rfl) rfl (lv_at hl 1 rfl) ?_
      refine va_get (D := (dC, dI)) (ci := 12) (v := .int (iI (A12 0 3))) (C := RX12) (T := TX12) (N := 85) hx hb hts hiX12 hown hK hP 0 wm0 rfl 3 (by decide) (hts _ (List.mem_cons_of_mem _ wlq_0_24)) (fun _ h9 => h9) rfl (dk_at dkX12_shutting_1 0 rfl) ?_
      have r_A12_0_3 : (0 : Int) ≤ (A12 0 3) ∧ (A12 0 3) ≤ 3 := hI 0 3
      refine lv_iconst (v := iI 1) hx hb (dk_at dkX12_shutting_1 1 rfl) (by decide +kernel) ?_
      refine lv_icmp_ne (tgt := 60) hx hb (dk_at dkX12_shutting_1 2 rfl) (by decide) (fun c27 => ?_) (fun c27 => ?_)
      · have c27 : ¬ (A12 0 3) = 1 := mt (i_eq (rb r_A12_0_3 (by decide) (by decide)) ⟨by decide, by decide⟩).mpr c27
        refine lv_iconst (v := iI (-1)) hx hb (dk_at dkX12_shutting_1 14 rfl) (by decide +kernel) ?_
        refine lv_istore_n (lv' := [(2, .int (iI (-1))), (1, .int (iI z7)), (0, .ref (q 0))]) hx hb (dk_at dkX12_shutting_1 15 rfl) rfl hl (by decide) rfl (fun ls hl => ?_)
        refine lv_iload_n hx hb (dk_at dkX12_shutting_2 0 rfl) rfl (lv_at hl 0 rfl) ?_
        refine lv_iconst (v := iI (-1)) hx hb (dk_at dkX12_shutting_2 1 rfl) (by decide +kernel) ?_
        refine lv_icmp_eq (tgt := 110) hx hb (dk_at dkX12_shutting_2 2 rfl) (by decide) (fun _ => ?_) (fun c28 => absurd c28 (by decide +kernel))
        refine lv_iconst (v := iI 4) hx hb (dk_at dkX12_shutting_3 13 rfl) (by decide +kernel) ?_
        refine lv_aload_n hx hb (dk_at dkX12_shutting_3 14 rfl) rfl (lv_at hl 2 rfl) ?_
        have e_A8_47 : A8 0 47 = (A 0 47) := (hf10.2 47 rfl).trans e_A2_47
        have e_A12_47 : A12 0 47 = (A 0 47) := (hf14.2 47 rfl).trans e_A8_47
        refine va_get (D := (dC, dI)) (ci := 12) (v := .int (iI (A12 0 47))) (C := RX12) (T := TX12) (N := 85) hx hb hts hiX12 hown hK hP 0 wm0 rfl 47 (by decide) (hts _ (List.mem_cons_of_mem _ wlq_1_12)) (fun _ h9 => h9) rfl (dk_at dkX12_shutting_3 15 rfl) ?_
        refine tp_i (y := iI (A 0 47)) (congrArg iI e_A12_47) ?_
        refine x_mulv (v := 4 * (A 0 47)) hx hb (dk_at dkX12_shutting_4 0 rfl) (by omega) ?_
        refine lv_aload_n hx hb (dk_at dkX12_shutting_4 1 rfl) rfl (lv_at hl 2 rfl) ?_
        refine lv_iconst (v := iI 2) hx hb (dk_at dkX12_shutting_4 2 rfl) (by decide +kernel) ?_
        have r_A12_0_7 : (-9223372036854775808 : Int) ≤ (A12 0 7) ∧ (A12 0 7) ≤ 9223372036854775807 := hI 0 7
        refine x_calli (As := [.int (iI 2)]) (rest := [.int (iI (4 * (A 0 47)))]) ⟨hx, hb, hml, hown, hts⟩ (mb_X12_asked_2 l dC dI cB cI cJ cZ cQ q _ 2 hI ⟨by decide, by decide⟩ hc15) (cwV 1 hts (goodV wlq_2_47 wlq_2_48 wlq_2_49 wlq_0_8 wlq_2_29) rfl rfl rfl (by decide +kernel) ⟨Nat.le_of_ble_eq_true rfl, Nat.le_of_ble_eq_true rfl⟩) hK hDD hA0 hP hS 0 12 wm0 rfl rfl hl.1 (Nat.le_of_ble_eq_true rfl) (dk_at dkX12_shutting_4 3 rfl) (fun z29 A30 H locs hw31 hP hS => ?_)
        have ghw31 : q_X12_asked_2 2 A12 z29 A30 := hw31
        obtain ⟨_, hI, hf32, hw31⟩ := hw31
        obtain ⟨hc33, hw31⟩ := hw31
        have r_A30_0_4 : (0 : Int) ≤ (A30 0 4) ∧ (A30 0 4) ≤ 1600 := hI 0 4
        have r_A30_0_8 : (0 : Int) ≤ (A30 0 8) ∧ (A30 0 8) ≤ 5 := hI 0 8
        refine x_addv (v := 4 * (A 0 47) + z29) hx hb (dk_at dkX12_shutting_4 4 rfl) (by omega) ?_
        refine lv_istore_n (lv' := [(2, .int (iI (4 * (A 0 47) + z29))), (1, .int (iI z7)), (0, .ref (q 0))]) hx hb (dk_at dkX12_shutting_4 5 rfl) rfl hl (by decide) rfl (fun ls hl => ?_)
        refine lv_aload_n hx hb (dk_at dkX12_shutting_4 6 rfl) rfl (lv_at hl 2 rfl) ?_
        refine va_get (D := (dC, dI)) (ci := 12) (v := .int (iI (A30 0 8))) (C := RX12) (T := TX12) (N := 85) hx hb hts hiX12 hown hK hP 0 wm0 rfl 8 (by decide) (hts _ (List.mem_cons_of_mem _ wlq_0_16)) (fun _ h9 => h9) rfl (dk_at dkX12_shutting_4 7 rfl) ?_
        refine lv_if_le (tgt := 131) hx hb (dk_at dkX12_shutting_4 8 rfl) (by decide) (fun c34 => ?_) (fun c34 => ?_)
        · have c34 : (A30 0 8) ≤ 0 := (i_le0 (rb r_A30_0_8 (by decide) (by decide))).mp c34
          have ga := hw31.2.2.2.out (by omega)
          have a_A2_12 : A2 12 = A 12 := (hf4.1 12 (by decide) rfl)
          have a_A8_12 : A8 12 = A 12 := (hf10.1 12 (by decide) rfl).trans a_A2_12
          have a_A12_12 : A12 12 = A 12 := (hf14.1 12 (by decide) rfl).trans a_A8_12
          have a_A2_11 : A2 11 = A 11 := (hf4.1 11 (by decide) rfl)
          have a_A8_11 : A8 11 = A 11 := (hf10.1 11 (by decide) rfl).trans a_A2_11
          have a_A12_11 : A12 11 = A 11 := (hf14.1 11 (by decide) rfl).trans a_A8_11
          rw [a_A12_12, a_A12_11, e_A12_47] at ga
          refine lv_aload_n hx hb (dk_at dkX12_shutting_4 10 rfl) rfl (lv_at hl 2 rfl) ?_
          refine va_get (D := (dC, dI)) (ci := 12) (v := .ref (q 15)) (C := RX12) (T := TX12) (N := 85) hx hb hts hiX12 hown hK hP 0 wm0 rfl 26 (by decide) (hts _ (List.mem_cons_of_mem _ wlq_3_7)) (fun _ h9 => h9) rfl (dk_at dkX12_shutting_4 11 rfl) ?_
          refine lv_bipush (v := iI 10) hx hb (dk_at dkX12_shutting_4 12 rfl) (by decide +kernel) ?_
          refine lv_iload_n hx hb (dk_at dkX12_shutting_4 13 rfl) rfl (lv_at hl 0 rfl) ?_
          refine x_mulv (v := 40 * (A 0 47) + 10 * z29) hx hb (dk_at dkX12_shutting_4 14 rfl) (by omega) ?_
          refine lv_aload_n hx hb (dk_at dkX12_shutting_4 15 rfl) rfl (lv_at hl 2 rfl) ?_
          refine va_get (D := (dC, dI)) (ci := 12) (v := .ref (q 14)) (C := RX12) (T := TX12) (N := 85) hx hb hts hiX12 hown hK hP 0 wm0 rfl 25 (by decide) (hts _ (List.mem_cons_of_mem _ wlq_2_59)) (fun _ h9 => h9) rfl (dk_at dkX12_shutting_5 0 rfl) ?_
          refine lv_iload_n hx hb (dk_at dkX12_shutting_5 1 rfl) rfl (lv_at hl 0 rfl) ?_
          have a_A2_14 : A2 14 = A 14 := (hf4.1 14 (by decide) rfl)
          have a_A8_14 : A8 14 = A 14 := (hf10.1 14 (by decide) rfl).trans a_A2_14
          have a_A12_14 : A12 14 = A 14 := (hf14.1 14 (by decide) rfl).trans a_A8_14
          have a_A30_14 : A30 14 = A 14 := (hf32.1 14 (by decide) rfl).trans a_A12_14
          refine x_iald hx hb hK hP 14 1 wm14 rfl (by omega) (by decide) (dk_at dkX12_shutting_5 2 rfl) (fun z35 hz35 => ?_)
          have rz35 : (0 : Int) ≤ z35 ∧ z35 ≤ 6 := by rw [hz35]; exact hI 14 _
          have gz35 := Hd.mk hz35
          have hz35 : z35 = A 14 (4 * (A 0 47) + z29).toNat := hz35.trans (congrFun a_A30_14 _)
          refine x_addv (v := 40 * (A 0 47) + 10 * z29 + z35) hx hb (dk_at dkX12_shutting_5 3 rfl) (by omega) ?_
          refine lv_iload_n hx hb (dk_at dkX12_shutting_5 4 rfl) rfl (lv_at hl 1 rfl) ?_
          refine x_iast hx hb hK hP hDD hS 15 1 wm15 rfl (by omega) (by decide) (dk_at dkX12_shutting_5 5 rfl) ws15 (fun H locs hP hS => ?_)
          have hI := hI.st (j := 15) (i := (40 * (A 0 47) + 10 * z29 + z35).toNat) (v := z7) (show (0 : Int) ≤ z7 ∧ z7 ≤ 9 from (by omega))
          refine lv_aload_n hx hb (dk_at dkX12_shutting_5 6 rfl) rfl (lv_at hl 2 rfl) ?_
          refine va_get (D := (dC, dI)) (ci := 12) (v := .ref (q 14)) (C := RX12) (T := TX12) (N := 85) hx hb hts hiX12 hown hK hP 0 wm0 rfl 25 (by decide) (hts _ (List.mem_cons_of_mem _ wlq_2_59)) (fun _ h9 => h9) rfl (dk_at dkX12_shutting_5 7 rfl) ?_
          refine lv_iload_n hx hb (dk_at dkX12_shutting_5 8 rfl) rfl (lv_at hl 0 rfl) ?_
          refine lv_dup2_11 hx hb (dk_at dkX12_shutting_5 9 rfl) rfl rfl ?_
          refine x_iald hx hb hK hP 14 1 wm14 rfl (by omega) (by decide) (dk_at dkX12_shutting_5 10 rfl) (fun z36 hz36 => ?_)
          have rz36 : (0 : Int) ≤ z36 ∧ z36 ≤ 6 := by rw [hz36]; exact hI 14 _
          have gz36 := Hd.mk hz36
          have hz36 : z36 = A 14 (4 * (A 0 47) + z29).toNat := hz36.trans (congrFun a_A30_14 _)
          have ez36 : z36 = z35 := hz36.trans hz35.symm
          refine lv_iconst (v := iI 1) hx hb (dk_at dkX12_shutting_5 11 rfl) (by decide +kernel) ?_
          refine x_addv (v := z36 + 1) hx hb (dk_at dkX12_shutting_5 12 rfl) (by omega) ?_
          refine x_iast hx hb hK hP hDD hS 14 1 wm14 rfl (by omega) (by decide) (dk_at dkX12_shutting_5 13 rfl) ws14 (fun H locs hP hS => ?_)
          have hI := hI.st (j := 14) (i := (4 * (A 0 47) + z29).toNat) (v := z36 + 1) (show (0 : Int) ≤ z36 + 1 ∧ z36 + 1 ≤ 6 from (by omega))
          obtain ⟨A37, hA37⟩ : ∃ A37 : St, A37 = (stA (stA A30 15 (40 * (A 0 47) + 10 * z29 + z35).toNat z7) 14 (4 * (A 0 47) + z29).toNat (z36 + 1)) := ⟨_, rfl⟩
          rw [← hA37] at hP hI
          have e_A37_4 : A37 0 4 = (A30 0 4) := by rw [hA37]; exact rfl
          have e_A37_8 : A37 0 8 = (A30 0 8) := by rw [hA37]; exact rfl
          exact RET _ _ _ _ _ ⟨(u_r_X12_shutting ⟨z1, A2, ghw3, (Or.inl ⟨c6, ⟨z7, A8, ghw9, ⟨A12, ghw13, (Or.inr ⟨c16, (Or.inl ⟨c27, ⟨z29, A30, ghw31, (Or.inl ⟨c34, ⟨z35, gz35.out, ⟨z36, gz36.out, ⟨A37, hA37, rfl⟩⟩⟩⟩)⟩⟩)⟩)⟩⟩⟩)⟩), hI, fr_def hA37 (fr.st (fr.st (fr.trans (fr.trans (fr.trans (fr.trans (fr.rf) hf4 rfl rfl) hf10 rfl rfl) hf14 rfl rfl) hf32 rfl rfl) (by decide) rfl) (by decide) rfl), (CB.fr hc33 (fr_def hA37 (fr.st (fr.st (fr.rf (M := [14, 15]) (N := [])) (by decide) rfl) (by decide) rfl)) rfl rfl), by omega⟩ hP hS (dk_at dkX12_shutting_5 14 rfl)
        · have c34 : ¬ (A30 0 8) ≤ 0 := mt (i_le0 (rb r_A30_0_8 (by decide) (by decide))).mpr c34
          exact RET _ _ _ _ _ ⟨(u_r_X12_shutting ⟨z1, A2, ghw3, (Or.inl ⟨c6, ⟨z7, A8, ghw9, ⟨A12, ghw13, (Or.inr ⟨c16, (Or.inl ⟨c27, ⟨z29, A30, ghw31, (Or.inr ⟨c34, rfl⟩)⟩⟩)⟩)⟩⟩⟩)⟩), hI, fr.trans (fr.trans (fr.trans (fr.trans (fr.rf) hf4 rfl rfl) hf10 rfl rfl) hf14 rfl rfl) hf32 rfl rfl, hc33, by omega⟩ hP hS (dk_at dkX12_shutting_4 9 rfl)
      · have c27 : (A12 0 3) = 1 := (i_eq (rb r_A12_0_3 (by decide) (by decide)) ⟨by decide, by decide⟩).mp c27
        refine lv_aload_n hx hb (dk_at dkX12_shutting_1 3 rfl) rfl (lv_at hl 1 rfl) ?_
        refine lv_aload_n hx hb (dk_at dkX12_shutting_1 4 rfl) rfl (lv_at hl 1 rfl) ?_
        refine va_get (D := (dC, dI)) (ci := 12) (v := .long (jI (A12 0 7))) (C := RX12) (T := TX12) (N := 85) hx hb hts hiX12 hown hK hP 0 wm0 rfl 7 (by decide) (hts _ (List.mem_cons_of_mem _ wlq_0_26)) (fun _ h9 => h9) rfl (dk_at dkX12_shutting_1 5 rfl) ?_
        have r_A12_0_7 : (-9223372036854775808 : Int) ≤ (A12 0 7) ∧ (A12 0 7) ≤ 9223372036854775807 := hI 0 7
        refine x_calli (As := [.long (jI (A12 0 7))]) (rest := []) ⟨hx, hb, hml, hown, hts⟩ (mb_X12_isOwn l dC dI cB cI cJ cZ cQ q _ (A12 0 7) hI r_A12_0_7) (cwV 1 hts (goodV wlq_2_23 wlq_2_24 wlq_2_25 wlq_0_8 wlq_0_43) rfl rfl rfl (by decide +kernel) ⟨Nat.le_of_ble_eq_true rfl, Nat.le_of_ble_eq_true rfl⟩) hK hDD hA0 hP hS 0 12 wm0 rfl rfl hl.1 (Nat.le_of_ble_eq_true rfl) (dk_at dkX12_shutting_1 6 rfl) (fun z38 A39 H locs hw40 hP hS => ?_)
        obtain ⟨rfl, hw40⟩ := hw40
        have ghw40 : q_X12_isOwn (A12 0 7) A12 z38 := hw40
        have hw40 := hw40.2
        have rz38 : 0 ≤ z38 ∧ z38 ≤ 1 := hw40.1
        refine lv_if_ne (tgt := 60) hx hb (dk_at dkX12_shutting_1 7 rfl) (by decide) (fun c41 => ?_) (fun c41 => ?_)
        · have c41 : ¬ z38 = 0 := mt (i_eq0 (rb rz38 (by decide) (by decide))).mpr c41
          refine lv_iconst (v := iI (-1)) hx hb (dk_at dkX12_shutting_1 14 rfl) (by decide +kernel) ?_
          refine lv_istore_n (lv' := [(2, .int (iI (-1))), (1, .int (iI z7)), (0, .ref (q 0))]) hx hb (dk_at dkX12_shutting_1 15 rfl) rfl hl (by decide) rfl (fun ls hl => ?_)
          refine lv_iload_n hx hb (dk_at dkX12_shutting_2 0 rfl) rfl (lv_at hl 0 rfl) ?_
          refine lv_iconst (v := iI (-1)) hx hb (dk_at dkX12_shutting_2 1 rfl) (by decide +kernel) ?_
          refine lv_icmp_eq (tgt := 110) hx hb (dk_at dkX12_shutting_2 2 rfl) (by decide) (fun _ => ?_) (fun c42 => absurd c42 (by decide +kernel))
          refine lv_iconst (v := iI 4) hx hb (dk_at dkX12_shutting_3 13 rfl) (by decide +kernel) ?_
          refine lv_aload_n hx hb (dk_at dkX12_shutting_3 14 rfl) rfl (lv_at hl 2 rfl) ?_
          have e_A8_47 : A8 0 47 = (A 0 47) := (hf10.2 47 rfl).trans e_A2_47
          have e_A12_47 : A12 0 47 = (A 0 47) := (hf14.2 47 rfl).trans e_A8_47
          refine va_get (D := (dC, dI)) (ci := 12) (v := .int (iI (A12 0 47))) (C := RX12) (T := TX12) (N := 85) hx hb hts hiX12 hown hK hP 0 wm0 rfl 47 (by decide) (hts _ (List.mem_cons_of_mem _ wlq_1_12)) (fun _ h9 => h9) rfl (dk_at dkX12_shutting_3 15 rfl) ?_
          refine tp_i (y := iI (A 0 47)) (congrArg iI e_A12_47) ?_
          refine x_mulv (v := 4 * (A 0 47)) hx hb (dk_at dkX12_shutting_4 0 rfl) (by omega) ?_
          refine lv_aload_n hx hb (dk_at dkX12_shutting_4 1 rfl) rfl (lv_at hl 2 rfl) ?_
          refine lv_iconst (v := iI 2) hx hb (dk_at dkX12_shutting_4 2 rfl) (by decide +kernel) ?_
          refine x_calli (As := [.int (iI 2)]) (rest := [.int (iI (4 * (A 0 47)))]) ⟨hx, hb, hml, hown, hts⟩ (mb_X12_asked_2 l dC dI cB cI cJ cZ cQ q _ 2 hI ⟨by decide, by decide⟩ hc15) (cwV 1 hts (goodV wlq_2_47 wlq_2_48 wlq_2_49 wlq_0_8 wlq_2_29) rfl rfl rfl (by decide +kernel) ⟨Nat.le_of_ble_eq_true rfl, Nat.le_of_ble_eq_true rfl⟩) hK hDD hA0 hP hS 0 12 wm0 rfl rfl hl.1 (Nat.le_of_ble_eq_true rfl) (dk_at dkX12_shutting_4 3 rfl) (fun z43 A44 H locs hw45 hP hS => ?_)
          have ghw45 : q_X12_asked_2 2 A12 z43 A44 := hw45
          obtain ⟨_, hI, hf46, hw45⟩ := hw45
          obtain ⟨hc47, hw45⟩ := hw45
          have r_A44_0_4 : (0 : Int) ≤ (A44 0 4) ∧ (A44 0 4) ≤ 1600 := hI 0 4
          have r_A44_0_8 : (0 : Int) ≤ (A44 0 8) ∧ (A44 0 8) ≤ 5 := hI 0 8
          refine x_addv (v := 4 * (A 0 47) + z43) hx hb (dk_at dkX12_shutting_4 4 rfl) (by omega) ?_
          refine lv_istore_n (lv' := [(2, .int (iI (4 * (A 0 47) + z43))), (1, .int (iI z7)), (0, .ref (q 0))]) hx hb (dk_at dkX12_shutting_4 5 rfl) rfl hl (by decide) rfl (fun ls hl => ?_)
          refine lv_aload_n hx hb (dk_at dkX12_shutting_4 6 rfl) rfl (lv_at hl 2 rfl) ?_
          refine va_get (D := (dC, dI)) (ci := 12) (v := .int (iI (A44 0 8))) (C := RX12) (T := TX12) (N := 85) hx hb hts hiX12 hown hK hP 0 wm0 rfl 8 (by decide) (hts _ (List.mem_cons_of_mem _ wlq_0_16)) (fun _ h9 => h9) rfl (dk_at dkX12_shutting_4 7 rfl) ?_
          refine lv_if_le (tgt := 131) hx hb (dk_at dkX12_shutting_4 8 rfl) (by decide) (fun c48 => ?_) (fun c48 => ?_)
          · have c48 : (A44 0 8) ≤ 0 := (i_le0 (rb r_A44_0_8 (by decide) (by decide))).mp c48
            have ga := hw45.2.2.2.out (by omega)
            have a_A2_12 : A2 12 = A 12 := (hf4.1 12 (by decide) rfl)
            have a_A8_12 : A8 12 = A 12 := (hf10.1 12 (by decide) rfl).trans a_A2_12
            have a_A12_12 : A12 12 = A 12 := (hf14.1 12 (by decide) rfl).trans a_A8_12
            have a_A2_11 : A2 11 = A 11 := (hf4.1 11 (by decide) rfl)
            have a_A8_11 : A8 11 = A 11 := (hf10.1 11 (by decide) rfl).trans a_A2_11
            have a_A12_11 : A12 11 = A 11 := (hf14.1 11 (by decide) rfl).trans a_A8_11
            rw [a_A12_12, a_A12_11, e_A12_47] at ga
            refine lv_aload_n hx hb (dk_at dkX12_shutting_4 10 rfl) rfl (lv_at hl 2 rfl) ?_
            refine va_get (D := (dC, dI)) (ci := 12) (v := .ref (q 15)) (C := RX12) (T := TX12) (N := 85) hx hb hts hiX12 hown hK hP 0 wm0 rfl 26 (by decide) (hts _ (List.mem_cons_of_mem _ wlq_3_7)) (fun _ h9 => h9) rfl (dk_at dkX12_shutting_4 11 rfl) ?_
            refine lv_bipush (v := iI 10) hx hb (dk_at dkX12_shutting_4 12 rfl) (by decide +kernel) ?_
            refine lv_iload_n hx hb (dk_at dkX12_shutting_4 13 rfl) rfl (lv_at hl 0 rfl) ?_
            refine x_mulv (v := 40 * (A 0 47) + 10 * z43) hx hb (dk_at dkX12_shutting_4 14 rfl) (by omega) ?_
            refine lv_aload_n hx hb (dk_at dkX12_shutting_4 15 rfl) rfl (lv_at hl 2 rfl) ?_
            refine va_get (D := (dC, dI)) (ci := 12) (v := .ref (q 14)) (C := RX12) (T := TX12) (N := 85) hx hb hts hiX12 hown hK hP 0 wm0 rfl 25 (by decide) (hts _ (List.mem_cons_of_mem _ wlq_2_59)) (fun _ h9 => h9) rfl (dk_at dkX12_shutting_5 0 rfl) ?_
            refine lv_iload_n hx hb (dk_at dkX12_shutting_5 1 rfl) rfl (lv_at hl 0 rfl) ?_
            have a_A2_14 : A2 14 = A 14 := (hf4.1 14 (by decide) rfl)
            have a_A8_14 : A8 14 = A 14 := (hf10.1 14 (by decide) rfl).trans a_A2_14
            have a_A12_14 : A12 14 = A 14 := (hf14.1 14 (by decide) rfl).trans a_A8_14
            have a_A44_14 : A44 14 = A 14 := (hf46.1 14 (by decide) rfl).trans a_A12_14
            refine x_iald hx hb hK hP 14 1 wm14 rfl (by omega) (by decide) (dk_at dkX12_shutting_5 2 rfl) (fun z49 hz49 => ?_)
            have rz49 : (0 : Int) ≤ z49 ∧ z49 ≤ 6 := by rw [hz49]; exact hI 14 _
            have gz49 := Hd.mk hz49
            have hz49 : z49 = A 14 (4 * (A 0 47) + z43).toNat := hz49.trans (congrFun a_A44_14 _)
            refine x_addv (v := 40 * (A 0 47) + 10 * z43 + z49) hx hb (dk_at dkX12_shutting_5 3 rfl) (by omega) ?_
            refine lv_iload_n hx hb (dk_at dkX12_shutting_5 4 rfl) rfl (lv_at hl 1 rfl) ?_
            refine x_iast hx hb hK hP hDD hS 15 1 wm15 rfl (by omega) (by decide) (dk_at dkX12_shutting_5 5 rfl) ws15 (fun H locs hP hS => ?_)
            have hI := hI.st (j := 15) (i := (40 * (A 0 47) + 10 * z43 + z49).toNat) (v := z7) (show (0 : Int) ≤ z7 ∧ z7 ≤ 9 from (by omega))
            refine lv_aload_n hx hb (dk_at dkX12_shutting_5 6 rfl) rfl (lv_at hl 2 rfl) ?_
            refine va_get (D := (dC, dI)) (ci := 12) (v := .ref (q 14)) (C := RX12) (T := TX12) (N := 85) hx hb hts hiX12 hown hK hP 0 wm0 rfl 25 (by decide) (hts _ (List.mem_cons_of_mem _ wlq_2_59)) (fun _ h9 => h9) rfl (dk_at dkX12_shutting_5 7 rfl) ?_
            refine lv_iload_n hx hb (dk_at dkX12_shutting_5 8 rfl) rfl (lv_at hl 0 rfl) ?_
            refine lv_dup2_11 hx hb (dk_at dkX12_shutting_5 9 rfl) rfl rfl ?_
            refine x_iald hx hb hK hP 14 1 wm14 rfl (by omega) (by decide) (dk_at dkX12_shutting_5 10 rfl) (fun z50 hz50 => ?_)
            have rz50 : (0 : Int) ≤ z50 ∧ z50 ≤ 6 := by rw [hz50]; exact hI 14 _
            have gz50 := Hd.mk hz50
            have hz50 : z50 = A 14 (4 * (A 0 47) + z43).toNat := hz50.trans (congrFun a_A44_14 _)
            have ez50 : z50 = z49 := hz50.trans hz49.symm
            refine lv_iconst (v := iI 1) hx hb (dk_at dkX12_shutting_5 11 rfl) (by decide +kernel) ?_
            refine x_addv (v := z50 + 1) hx hb (dk_at dkX12_shutting_5 12 rfl) (by omega) ?_
            refine x_iast hx hb hK hP hDD hS 14 1 wm14 rfl (by omega) (by decide) (dk_at dkX12_shutting_5 13 rfl) ws14 (fun H locs hP hS => ?_)
            have hI := hI.st (j := 14) (i := (4 * (A 0 47) + z43).toNat) (v := z50 + 1) (show (0 : Int) ≤ z50 + 1 ∧ z50 + 1 ≤ 6 from (by omega))
            obtain ⟨A51, hA51⟩ : ∃ A51 : St, A51 = (stA (stA A44 15 (40 * (A 0 47) + 10 * z43 + z49).toNat z7) 14 (4 * (A 0 47) + z43).toNat (z50 + 1)) := ⟨_, rfl⟩
            rw [← hA51] at hP hI
            have e_A51_4 : A51 0 4 = (A44 0 4) := by rw [hA51]; exact rfl
            have e_A51_8 : A51 0 8 = (A44 0 8) := by rw [hA51]; exact rfl
            exact RET _ _ _ _ _ ⟨(u_r_X12_shutting ⟨z1, A2, ghw3, (Or.inl ⟨c6, ⟨z7, A8, ghw9, ⟨A12, ghw13, (Or.inr ⟨c16, (Or.inr ⟨c27, ⟨z38, ghw40, (Or.inl ⟨c41, ⟨z43, A44, ghw45, (Or.inl ⟨c48, ⟨z49, gz49.out, ⟨z50, gz50.out, ⟨A51, hA51, rfl⟩⟩⟩⟩)⟩⟩)⟩⟩)⟩)⟩⟩⟩)⟩), hI, fr_def hA51 (fr.st (fr.st (fr.trans (fr.trans (fr.trans (fr.trans (fr.rf) hf4 rfl rfl) hf10 rfl rfl) hf14 rfl rfl) hf46 rfl rfl) (by decide) rfl) (by decide) rfl), (CB.fr hc47 (fr_def hA51 (fr.st (fr.st (fr.rf (M := [14, 15]) (N := [])) (by decide) rfl) (by decide) rfl)) rfl rfl), by omega⟩ hP hS (dk_at dkX12_shutting_5 14 rfl)
          · have c48 : ¬ (A44 0 8) ≤ 0 := mt (i_le0 (rb r_A44_0_8 (by decide) (by decide))).mpr c48
            exact RET _ _ _ _ _ ⟨(u_r_X12_shutting ⟨z1, A2, ghw3, (Or.inl ⟨c6, ⟨z7, A8, ghw9, ⟨A12, ghw13, (Or.inr ⟨c16, (Or.inr ⟨c27, ⟨z38, ghw40, (Or.inl ⟨c41, ⟨z43, A44, ghw45, (Or.inr ⟨c48, rfl⟩)⟩⟩)⟩⟩)⟩)⟩⟩⟩)⟩), hI, fr.trans (fr.trans (fr.trans (fr.trans (fr.rf) hf4 rfl rfl) hf10 rfl rfl) hf14 rfl rfl) hf46 rfl rfl, hc47, by omega⟩ hP hS (dk_at dkX12_shutting_4 9 rfl)
        · have c41 : z38 = 0 := (i_eq0 (rb rz38 (by decide) (by decide))).mp c41
          refine lv_aload_n hx hb (dk_at dkX12_shutting_1 8 rfl) rfl (lv_at hl 1 rfl) ?_
          refine lv_iconst (v := iI 2) hx hb (dk_at dkX12_shutting_1 9 rfl) (by decide +kernel) ?_
          refine lv_aload_n hx hb (dk_at dkX12_shutting_1 10 rfl) rfl (lv_at hl 1 rfl) ?_
          refine va_get (D := (dC, dI)) (ci := 12) (v := .long (jI (A12 0 7))) (C := RX12) (T := TX12) (N := 85) hx hb hts hiX12 hown hK hP 0 wm0 rfl 7 (by decide) (hts _ (List.mem_cons_of_mem _ wlq_0_26)) (fun _ h9 => h9) rfl (dk_at dkX12_shutting_1 11 rfl) ?_
          have e_A8_47 : A8 0 47 = (A 0 47) := (hf10.2 47 rfl).trans e_A2_47
          have e_A12_47 : A12 0 47 = (A 0 47) := (hf14.2 47 rfl).trans e_A8_47
          refine x_calli (As := [.int (iI 2), .long (jI (A12 0 7))]) (rest := []) ⟨hx, hb, hml, hown, hts⟩ (mb_X12_named_2 l dC dI cB cI cJ cZ cQ q _ 2 (A12 0 7) hI ⟨by decide, by decide⟩ r_A12_0_7) (cwV 2 hts (goodV wlq_2_26 wlq_2_27 wlq_2_28 wlq_0_8 wlq_1_10) rfl rfl rfl (by decide +kernel) ⟨Nat.le_of_ble_eq_true rfl, Nat.le_of_ble_eq_true rfl⟩) hK hDD hA0 hP hS 0 12 wm0 rfl rfl hl.1 (Nat.le_of_ble_eq_true rfl) (dk_at dkX12_shutting_1 12 rfl) (fun z52 A53 H locs hw54 hP hS => ?_)
          obtain ⟨rfl, hw54⟩ := hw54
          have ghw54 : q_X12_named_2 2 (A12 0 7) A12 z52 := hw54
          have hw54 := hw54.2
          have a_A2_12 : A2 12 = A 12 := (hf4.1 12 (by decide) rfl)
          have a_A8_12 : A8 12 = A 12 := (hf10.1 12 (by decide) rfl).trans a_A2_12
          have a_A12_12 : A12 12 = A 12 := (hf14.1 12 (by decide) rfl).trans a_A8_12
          have a_A2_11 : A2 11 = A 11 := (hf4.1 11 (by decide) rfl)
          have a_A8_11 : A8 11 = A 11 := (hf10.1 11 (by decide) rfl).trans a_A2_11
          have a_A12_11 : A12 11 = A 11 := (hf14.1 11 (by decide) rfl).trans a_A8_11
          rw [a_A12_12, a_A12_11, e_A12_47] at hw54
          refine lv_goto (tgt := 61) hx hb (dk_at dkX12_shutting_1 13 rfl) (by decide) ?_
          refine lv_istore_n (lv' := [(2, .int (iI z52)), (1, .int (iI z7)), (0, .ref (q 0))]) hx hb (dk_at dkX12_shutting_1 15 rfl) rfl hl (by decide) rfl (fun ls hl => ?_)
          refine lv_iload_n hx hb (dk_at dkX12_shutting_2 0 rfl) rfl (lv_at hl 0 rfl) ?_
          refine lv_iconst (v := iI (-1)) hx hb (dk_at dkX12_shutting_2 1 rfl) (by decide +kernel) ?_
          refine lv_icmp_eq (tgt := 110) hx hb (dk_at dkX12_shutting_2 2 rfl) (by decide) (fun c55 => ?_) (fun c55 => ?_)
          · have c55 : z52 = (-1) := (i_eq (by omega) ⟨by decide, by decide⟩).mp c55
            refine lv_iconst (v := iI 4) hx hb (dk_at dkX12_shutting_3 13 rfl) (by decide +kernel) ?_
            refine lv_aload_n hx hb (dk_at dkX12_shutting_3 14 rfl) rfl (lv_at hl 2 rfl) ?_
            refine va_get (D := (dC, dI)) (ci := 12) (v := .int (iI (A12 0 47))) (C := RX12) (T := TX12) (N := 85) hx hb hts hiX12 hown hK hP 0 wm0 rfl 47 (by decide) (hts _ (List.mem_cons_of_mem _ wlq_1_12)) (fun _ h9 => h9) rfl (dk_at dkX12_shutting_3 15 rfl) ?_
            refine tp_i (y := iI (A 0 47)) (congrArg iI e_A12_47) ?_
            refine x_mulv (v := 4 * (A 0 47)) hx hb (dk_at dkX12_shutting_4 0 rfl) (by omega) ?_
            refine lv_aload_n hx hb (dk_at dkX12_shutting_4 1 rfl) rfl (lv_at hl 2 rfl) ?_
            refine lv_iconst (v := iI 2) hx hb (dk_at dkX12_shutting_4 2 rfl) (by decide +kernel) ?_
            refine x_calli (As := [.int (iI 2)]) (rest := [.int (iI (4 * (A 0 47)))]) ⟨hx, hb, hml, hown, hts⟩ (mb_X12_asked_2 l dC dI cB cI cJ cZ cQ q _ 2 hI ⟨by decide, by decide⟩ hc15) (cwV 1 hts (goodV wlq_2_47 wlq_2_48 wlq_2_49 wlq_0_8 wlq_2_29) rfl rfl rfl (by decide +kernel) ⟨Nat.le_of_ble_eq_true rfl, Nat.le_of_ble_eq_true rfl⟩) hK hDD hA0 hP hS 0 12 wm0 rfl rfl hl.1 (Nat.le_of_ble_eq_true rfl) (dk_at dkX12_shutting_4 3 rfl) (fun z56 A57 H locs hw58 hP hS => ?_)
            have ghw58 : q_X12_asked_2 2 A12 z56 A57 := hw58
            obtain ⟨_, hI, hf59, hw58⟩ := hw58
            obtain ⟨hc60, hw58⟩ := hw58
            have r_A57_0_4 : (0 : Int) ≤ (A57 0 4) ∧ (A57 0 4) ≤ 1600 := hI 0 4
            have r_A57_0_8 : (0 : Int) ≤ (A57 0 8) ∧ (A57 0 8) ≤ 5 := hI 0 8
            refine x_addv (v := 4 * (A 0 47) + z56) hx hb (dk_at dkX12_shutting_4 4 rfl) (by omega) ?_
            refine lv_istore_n (lv' := [(2, .int (iI (4 * (A 0 47) + z56))), (1, .int (iI z7)), (0, .ref (q 0))]) hx hb (dk_at dkX12_shutting_4 5 rfl) rfl hl (by decide) rfl (fun ls hl => ?_)
            refine lv_aload_n hx hb (dk_at dkX12_shutting_4 6 rfl) rfl (lv_at hl 2 rfl) ?_
            refine va_get (D := (dC, dI)) (ci := 12) (v := .int (iI (A57 0 8))) (C := RX12) (T := TX12) (N := 85) hx hb hts hiX12 hown hK hP 0 wm0 rfl 8 (by decide) (hts _ (List.mem_cons_of_mem _ wlq_0_16)) (fun _ h9 => h9) rfl (dk_at dkX12_shutting_4 7 rfl) ?_
            refine lv_if_le (tgt := 131) hx hb (dk_at dkX12_shutting_4 8 rfl) (by decide) (fun c61 => ?_) (fun c61 => ?_)
            · have c61 : (A57 0 8) ≤ 0 := (i_le0 (rb r_A57_0_8 (by decide) (by decide))).mp c61
              have ga := hw58.2.2.2.out (by omega)
              rw [a_A12_12, a_A12_11, e_A12_47] at ga
              have ez : z52 = z56 := by omega
              refine lv_aload_n hx hb (dk_at dkX12_shutting_4 10 rfl) rfl (lv_at hl 2 rfl) ?_
              refine va_get (D := (dC, dI)) (ci := 12) (v := .ref (q 15)) (C := RX12) (T := TX12) (N := 85) hx hb hts hiX12 hown hK hP 0 wm0 rfl 26 (by decide) (hts _ (List.mem_cons_of_mem _ wlq_3_7)) (fun _ h9 => h9) rfl (dk_at dkX12_shutting_4 11 rfl) ?_
              refine lv_bipush (v := iI 10) hx hb (dk_at dkX12_shutting_4 12 rfl) (by decide +kernel) ?_
              refine lv_iload_n hx hb (dk_at dkX12_shutting_4 13 rfl) rfl (lv_at hl 0 rfl) ?_
              refine x_mulv (v := 40 * (A 0 47) + 10 * z56) hx hb (dk_at dkX12_shutting_4 14 rfl) (by omega) ?_
              refine lv_aload_n hx hb (dk_at dkX12_shutting_4 15 rfl) rfl (lv_at hl 2 rfl) ?_
              refine va_get (D := (dC, dI)) (ci := 12) (v := .ref (q 14)) (C := RX12) (T := TX12) (N := 85) hx hb hts hiX12 hown hK hP 0 wm0 rfl 25 (by decide) (hts _ (List.mem_cons_of_mem _ wlq_2_59)) (fun _ h9 => h9) rfl (dk_at dkX12_shutting_5 0 rfl) ?_
              refine lv_iload_n hx hb (dk_at dkX12_shutting_5 1 rfl) rfl (lv_at hl 0 rfl) ?_
              have a_A2_14 : A2 14 = A 14 := (hf4.1 14 (by decide) rfl)
              have a_A8_14 : A8 14 = A 14 := (hf10.1 14 (by decide) rfl).trans a_A2_14
              have a_A12_14 : A12 14 = A 14 := (hf14.1 14 (by decide) rfl).trans a_A8_14
              have a_A57_14 : A57 14 = A 14 := (hf59.1 14 (by decide) rfl).trans a_A12_14
              refine x_iald hx hb hK hP 14 1 wm14 rfl (by omega) (by decide) (dk_at dkX12_shutting_5 2 rfl) (fun z62 hz62 => ?_)
              have rz62 : (0 : Int) ≤ z62 ∧ z62 ≤ 6 := by rw [hz62]; exact hI 14 _
              have gz62 := Hd.mk hz62
              have hz62 : z62 = A 14 (4 * (A 0 47) + z56).toNat := hz62.trans (congrFun a_A57_14 _)
              refine x_addv (v := 40 * (A 0 47) + 10 * z56 + z62) hx hb (dk_at dkX12_shutting_5 3 rfl) (by omega) ?_
              refine lv_iload_n hx hb (dk_at dkX12_shutting_5 4 rfl) rfl (lv_at hl 1 rfl) ?_
              refine x_iast hx hb hK hP hDD hS 15 1 wm15 rfl (by omega) (by decide) (dk_at dkX12_shutting_5 5 rfl) ws15 (fun H locs hP hS => ?_)
              have hI := hI.st (j := 15) (i := (40 * (A 0 47) + 10 * z56 + z62).toNat) (v := z7) (show (0 : Int) ≤ z7 ∧ z7 ≤ 9 from (by omega))
              refine lv_aload_n hx hb (dk_at dkX12_shutting_5 6 rfl) rfl (lv_at hl 2 rfl) ?_
              refine va_get (D := (dC, dI)) (ci := 12) (v := .ref (q 14)) (C := RX12) (T := TX12) (N := 85) hx hb hts hiX12 hown hK hP 0 wm0 rfl 25 (by decide) (hts _ (List.mem_cons_of_mem _ wlq_2_59)) (fun _ h9 => h9) rfl (dk_at dkX12_shutting_5 7 rfl) ?_
              refine lv_iload_n hx hb (dk_at dkX12_shutting_5 8 rfl) rfl (lv_at hl 0 rfl) ?_
              refine lv_dup2_11 hx hb (dk_at dkX12_shutting_5 9 rfl) rfl rfl ?_
              refine x_iald hx hb hK hP 14 1 wm14 rfl (by omega) (by decide) (dk_at dkX12_shutting_5 10 rfl) (fun z63 hz63 => ?_)
              have rz63 : (0 : Int) ≤ z63 ∧ z63 ≤ 6 := by rw [hz63]; exact hI 14 _
              have gz63 := Hd.mk hz63
              have hz63 : z63 = A 14 (4 * (A 0 47) + z56).toNat := hz63.trans (congrFun a_A57_14 _)
              have ez63 : z63 = z62 := hz63.trans hz62.symm
              refine lv_iconst (v := iI 1) hx hb (dk_at dkX12_shutting_5 11 rfl) (by decide +kernel) ?_
              refine x_addv (v := z63 + 1) hx hb (dk_at dkX12_shutting_5 12 rfl) (by omega) ?_
              refine x_iast hx hb hK hP hDD hS 14 1 wm14 rfl (by omega) (by decide) (dk_at dkX12_shutting_5 13 rfl) ws14 (fun H locs hP hS => ?_)
              have hI := hI.st (j := 14) (i := (4 * (A 0 47) + z56).toNat) (v := z63 + 1) (show (0 : Int) ≤ z63 + 1 ∧ z63 + 1 ≤ 6 from (by omega))
              obtain ⟨A64, hA64⟩ : ∃ A64 : St, A64 = (stA (stA A57 15 (40 * (A 0 47) + 10 * z56 + z62).toNat z7) 14 (4 * (A 0 47) + z56).toNat (z63 + 1)) := ⟨_, rfl⟩
              rw [← hA64] at hP hI
              have e_A64_4 : A64 0 4 = (A57 0 4) := by rw [hA64]; exact rfl
              have e_A64_8 : A64 0 8 = (A57 0 8) := by rw [hA64]; exact rfl
              exact RET _ _ _ _ _ ⟨(u_r_X12_shutting ⟨z1, A2, ghw3, (Or.inl ⟨c6, ⟨z7, A8, ghw9, ⟨A12, ghw13, (Or.inr ⟨c16, (Or.inr ⟨c27, ⟨z38, ghw40, (Or.inr ⟨c41, ⟨z52, ghw54, (Or.inl ⟨c55, ⟨z56, A57, ghw58, (Or.inl ⟨c61, ⟨z62, gz62.out, ⟨z63, gz63.out, ⟨A64, hA64, rfl⟩⟩⟩⟩)⟩⟩)⟩⟩)⟩⟩)⟩)⟩⟩⟩)⟩), hI, fr_def hA64 (fr.st (fr.st (fr.trans (fr.trans (fr.trans (fr.trans (fr.rf) hf4 rfl rfl) hf10 rfl rfl) hf14 rfl rfl) hf59 rfl rfl) (by decide) rfl) (by decide) rfl), (CB.fr hc60 (fr_def hA64 (fr.st (fr.st (fr.rf (M := [14, 15]) (N := [])) (by decide) rfl) (by decide) rfl)) rfl rfl), by omega⟩ hP hS (dk_at dkX12_shutting_5 14 rfl)
            · have c61 : ¬ (A57 0 8) ≤ 0 := mt (i_le0 (rb r_A57_0_8 (by decide) (by decide))).mpr c61
              exact RET _ _ _ _ _ ⟨(u_r_X12_shutting ⟨z1, A2, ghw3, (Or.inl ⟨c6, ⟨z7, A8, ghw9, ⟨A12, ghw13, (Or.inr ⟨c16, (Or.inr ⟨c27, ⟨z38, ghw40, (Or.inr ⟨c41, ⟨z52, ghw54, (Or.inl ⟨c55, ⟨z56, A57, ghw58, (Or.inr ⟨c61, rfl⟩)⟩⟩)⟩⟩)⟩⟩)⟩)⟩⟩⟩)⟩), hI, fr.trans (fr.trans (fr.trans (fr.trans (fr.rf) hf4 rfl rfl) hf10 rfl rfl) hf14 rfl rfl) hf59 rfl rfl, hc60, by omega⟩ hP hS (dk_at dkX12_shutting_4 9 rfl)
          · have c55 : ¬ z52 = (-1) := mt (i_eq (by omega) ⟨by decide, by decide⟩).mpr c55
            refine lv_aload_n hx hb (dk_at dkX12_shutting_2 3 rfl) rfl (lv_at hl 2 rfl) ?_
            refine lv_iconst (v := iI 4) hx hb (dk_at dkX12_shutting_2 4 rfl) (by decide +kernel) ?_
            refine lv_aload_n hx hb (dk_at dkX12_shutting_2 5 rfl) rfl (lv_at hl 2 rfl) ?_
            refine va_get (D := (dC, dI)) (ci := 12) (v := .int (iI (A12 0 47))) (C := RX12) (T := TX12) (N := 85) hx hb hts hiX12 hown hK hP 0 wm0 rfl 47 (by decide) (hts _ (List.mem_cons_of_mem _ wlq_1_12)) (fun _ h9 => h9) rfl (dk_at dkX12_shutting_2 6 rfl) ?_
            refine tp_i (y := iI (A 0 47)) (congrArg iI e_A12_47) ?_
            refine x_mulv (v := 4 * (A 0 47)) hx hb (dk_at dkX12_shutting_2 7 rfl) (by omega) ?_
            refine lv_iload_n hx hb (dk_at dkX12_shutting_2 8 rfl) rfl (lv_at hl 0 rfl) ?_
            refine x_addv (v := 4 * (A 0 47) + z52) hx hb (dk_at dkX12_shutting_2 9 rfl) (by omega) ?_
            refine lv_iload_n hx hb (dk_at dkX12_shutting_2 10 rfl) rfl (lv_at hl 1 rfl) ?_
            refine x_calli (As := [.int (iI (4 * (A 0 47) + z52)), .int (iI z7)]) (rest := []) ⟨hx, hb, hml, hown, hts⟩ (mc_X12_isInRow l dC dI cB cI cJ cZ cQ q _ (4 * (A 0 47) + z52) z7 hI (by omega) (by omega)) (cwV 2 hts (goodV wlq_3_9 wlq_3_10 wlq_3_11 wlq_0_8 wlq_3_6) rfl rfl rfl (by decide +kernel) ⟨Nat.le_of_ble_eq_true rfl, Nat.le_of_ble_eq_true rfl⟩) hK hDD hA0 hP hS 0 12 wm0 rfl rfl hl.1 (Nat.le_of_ble_eq_true rfl) (dk_at dkX12_shutting_2 11 rfl) (fun z65 A66 H locs hw67 hP hS => ?_)
            obtain ⟨rfl, hw67⟩ := hw67
            have ghw67 : q_X12_isInRow (4 * (A 0 47) + z52) z7 A12 z65 := hw67
            have hw67 := hw67.2
            refine lv_if_ne (tgt := 101) hx hb (dk_at dkX12_shutting_2 12 rfl) (by decide) (fun c68 => ?_) (fun c68 => ?_)
            · have c68 : ¬ z65 = 0 := mt (i_eq0 (rb hw67 (by decide) (by decide))).mpr c68
              refine lv_aload_n hx hb (dk_at dkX12_shutting_3 8 rfl) rfl (lv_at hl 2 rfl) ?_
              refine lv_iconst (v := iI 3) hx hb (dk_at dkX12_shutting_3 9 rfl) (by decide +kernel) ?_
              refine lv_aload_n hx hb (dk_at dkX12_shutting_3 10 rfl) rfl (lv_at hl 2 rfl) ?_
              refine va_get (D := (dC, dI)) (ci := 12) (v := .int (iI (A12 0 4))) (C := RX12) (T := TX12) (N := 85) hx hb hts hiX12 hown hK hP 0 wm0 rfl 4 (by decide) (hts _ (List.mem_cons_of_mem _ wlq_0_23)) (fun _ h9 => h9) rfl (dk_at dkX12_shutting_3 11 rfl) ?_
              refine x_callv (As := [.int (iI 3), .int (iI (A12 0 4))]) (rest := []) ⟨hx, hb, hml, hown, hts⟩ (mc_X12_blame l dC dI cB cI cJ cZ cQ q _ 3 (A12 0 4) hI ⟨by decide, by decide⟩ r_A12_0_4) (cwV 2 hts (goodV wlq_0_31 wlq_0_32 wlq_0_33 wlq_0_8 wlq_0_15) rfl rfl rfl (by decide +kernel) ⟨Nat.le_of_ble_eq_true rfl, Nat.le_of_ble_eq_true rfl⟩) hK hDD hA0 hP hS 0 12 wm0 rfl rfl hl.1 (Nat.le_of_ble_eq_true rfl) (dk_at dkX12_shutting_3 12 rfl) (fun A69 H locs hw70 hP hS => ?_)
              have ghw70 : q_X12_blame 3 (A12 0 4) A12 A69 := hw70
              obtain ⟨_, hI, hf71, hw70⟩ := hw70
              have r_A69_0_8 : (0 : Int) ≤ (A69 0 8) ∧ (A69 0 8) ≤ 5 := hI 0 8
              refine lv_iconst (v := iI 4) hx hb (dk_at dkX12_shutting_3 13 rfl) (by decide +kernel) ?_
              refine lv_aload_n hx hb (dk_at dkX12_shutting_3 14 rfl) rfl (lv_at hl 2 rfl) ?_
              have e_A69_47 : A69 0 47 = (A 0 47) := (hf71.2 47 rfl).trans e_A12_47
              refine va_get (D := (dC, dI)) (ci := 12) (v := .int (iI (A69 0 47))) (C := RX12) (T := TX12) (N := 85) hx hb hts hiX12 hown hK hP 0 wm0 rfl 47 (by decide) (hts _ (List.mem_cons_of_mem _ wlq_1_12)) (fun _ h9 => h9) rfl (dk_at dkX12_shutting_3 15 rfl) ?_
              refine tp_i (y := iI (A 0 47)) (congrArg iI e_A69_47) ?_
              refine x_mulv (v := 4 * (A 0 47)) hx hb (dk_at dkX12_shutting_4 0 rfl) (by omega) ?_
              refine lv_aload_n hx hb (dk_at dkX12_shutting_4 1 rfl) rfl (lv_at hl 2 rfl) ?_
              refine lv_iconst (v := iI 2) hx hb (dk_at dkX12_shutting_4 2 rfl) (by decide +kernel) ?_
              have e_A69_3 : A69 0 3 = (A12 0 3) := (hf71.2 3 rfl)
              have e_A69_4 : A69 0 4 = (A12 0 4) := (hf71.2 4 rfl)
              have e_A69_7 : A69 0 7 = (A12 0 7) := (hf71.2 7 rfl)
              refine x_calli (As := [.int (iI 2)]) (rest := [.int (iI (4 * (A 0 47)))]) ⟨hx, hb, hml, hown, hts⟩ (mb_X12_asked_2 l dC dI cB cI cJ cZ cQ q _ 2 hI ⟨by decide, by decide⟩ (CB.fr hc15 hf71 rfl rfl)) (cwV 1 hts (goodV wlq_2_47 wlq_2_48 wlq_2_49 wlq_0_8 wlq_2_29) rfl rfl rfl (by decide +kernel) ⟨Nat.le_of_ble_eq_true rfl, Nat.le_of_ble_eq_true rfl⟩) hK hDD hA0 hP hS 0 12 wm0 rfl rfl hl.1 (Nat.le_of_ble_eq_true rfl) (dk_at dkX12_shutting_4 3 rfl) (fun z72 A73 H locs hw74 hP hS => ?_)
              have ghw74 : q_X12_asked_2 2 A69 z72 A73 := hw74
              obtain ⟨_, hI, hf75, hw74⟩ := hw74
              obtain ⟨hc76, hw74⟩ := hw74
              have r_A73_0_4 : (0 : Int) ≤ (A73 0 4) ∧ (A73 0 4) ≤ 1600 := hI 0 4
              have r_A73_0_8 : (0 : Int) ≤ (A73 0 8) ∧ (A73 0 8) ≤ 5 := hI 0 8
              refine x_addv (v := 4 * (A 0 47) + z72) hx hb (dk_at dkX12_shutting_4 4 rfl) (by omega) ?_
              refine lv_istore_n (lv' := [(2, .int (iI (4 * (A 0 47) + z72))), (1, .int (iI z7)), (0, .ref (q 0))]) hx hb (dk_at dkX12_shutting_4 5 rfl) rfl hl (by decide) rfl (fun ls hl => ?_)
              refine lv_aload_n hx hb (dk_at dkX12_shutting_4 6 rfl) rfl (lv_at hl 2 rfl) ?_
              refine va_get (D := (dC, dI)) (ci := 12) (v := .int (iI (A73 0 8))) (C := RX12) (T := TX12) (N := 85) hx hb hts hiX12 hown hK hP 0 wm0 rfl 8 (by decide) (hts _ (List.mem_cons_of_mem _ wlq_0_16)) (fun _ h9 => h9) rfl (dk_at dkX12_shutting_4 7 rfl) ?_
              refine lv_if_le (tgt := 131) hx hb (dk_at dkX12_shutting_4 8 rfl) (by decide) (fun c77 => ?_) (fun c77 => ?_)
              · have c77 : (A73 0 8) ≤ 0 := (i_le0 (rb r_A73_0_8 (by decide) (by decide))).mp c77
                have ga := hw74.2.2.2.out (by omega)
                have a_A69_12 : A69 12 = A 12 := (hf71.1 12 (by decide) rfl).trans a_A12_12
                have a_A69_11 : A69 11 = A 11 := (hf71.1 11 (by decide) rfl).trans a_A12_11
                rw [a_A69_12, a_A69_11, e_A69_47, e_A69_7] at ga
                have ez : z52 = z72 := by omega
                refine lv_aload_n hx hb (dk_at dkX12_shutting_4 10 rfl) rfl (lv_at hl 2 rfl) ?_
                refine va_get (D := (dC, dI)) (ci := 12) (v := .ref (q 15)) (C := RX12) (T := TX12) (N := 85) hx hb hts hiX12 hown hK hP 0 wm0 rfl 26 (by decide) (hts _ (List.mem_cons_of_mem _ wlq_3_7)) (fun _ h9 => h9) rfl (dk_at dkX12_shutting_4 11 rfl) ?_
                refine lv_bipush (v := iI 10) hx hb (dk_at dkX12_shutting_4 12 rfl) (by decide +kernel) ?_
                refine lv_iload_n hx hb (dk_at dkX12_shutting_4 13 rfl) rfl (lv_at hl 0 rfl) ?_
                refine x_mulv (v := 40 * (A 0 47) + 10 * z72) hx hb (dk_at dkX12_shutting_4 14 rfl) (by omega) ?_
                refine lv_aload_n hx hb (dk_at dkX12_shutting_4 15 rfl) rfl (lv_at hl 2 rfl) ?_
                refine va_get (D := (dC, dI)) (ci := 12) (v := .ref (q 14)) (C := RX12) (T := TX12) (N := 85) hx hb hts hiX12 hown hK hP 0 wm0 rfl 25 (by decide) (hts _ (List.mem_cons_of_mem _ wlq_2_59)) (fun _ h9 => h9) rfl (dk_at dkX12_shutting_5 0 rfl) ?_
                refine lv_iload_n hx hb (dk_at dkX12_shutting_5 1 rfl) rfl (lv_at hl 0 rfl) ?_
                have a_A2_14 : A2 14 = A 14 := (hf4.1 14 (by decide) rfl)
                have a_A8_14 : A8 14 = A 14 := (hf10.1 14 (by decide) rfl).trans a_A2_14
                have a_A12_14 : A12 14 = A 14 := (hf14.1 14 (by decide) rfl).trans a_A8_14
                have a_A69_14 : A69 14 = A 14 := (hf71.1 14 (by decide) rfl).trans a_A12_14
                have a_A73_14 : A73 14 = A 14 := (hf75.1 14 (by decide) rfl).trans a_A69_14
                refine x_iald hx hb hK hP 14 1 wm14 rfl (by omega) (by decide) (dk_at dkX12_shutting_5 2 rfl) (fun z78 hz78 => ?_)
                have rz78 : (0 : Int) ≤ z78 ∧ z78 ≤ 6 := by rw [hz78]; exact hI 14 _
                have gz78 := Hd.mk hz78
                have hz78 : z78 = A 14 (4 * (A 0 47) + z72).toNat := hz78.trans (congrFun a_A73_14 _)
                refine x_addv (v := 40 * (A 0 47) + 10 * z72 + z78) hx hb (dk_at dkX12_shutting_5 3 rfl) (by omega) ?_
                refine lv_iload_n hx hb (dk_at dkX12_shutting_5 4 rfl) rfl (lv_at hl 1 rfl) ?_
                refine x_iast hx hb hK hP hDD hS 15 1 wm15 rfl (by omega) (by decide) (dk_at dkX12_shutting_5 5 rfl) ws15 (fun H locs hP hS => ?_)
                have hI := hI.st (j := 15) (i := (40 * (A 0 47) + 10 * z72 + z78).toNat) (v := z7) (show (0 : Int) ≤ z7 ∧ z7 ≤ 9 from (by omega))
                refine lv_aload_n hx hb (dk_at dkX12_shutting_5 6 rfl) rfl (lv_at hl 2 rfl) ?_
                refine va_get (D := (dC, dI)) (ci := 12) (v := .ref (q 14)) (C := RX12) (T := TX12) (N := 85) hx hb hts hiX12 hown hK hP 0 wm0 rfl 25 (by decide) (hts _ (List.mem_cons_of_mem _ wlq_2_59)) (fun _ h9 => h9) rfl (dk_at dkX12_shutting_5 7 rfl) ?_
                refine lv_iload_n hx hb (dk_at dkX12_shutting_5 8 rfl) rfl (lv_at hl 0 rfl) ?_
                refine lv_dup2_11 hx hb (dk_at dkX12_shutting_5 9 rfl) rfl rfl ?_
                refine x_iald hx hb hK hP 14 1 wm14 rfl (by omega) (by decide) (dk_at dkX12_shutting_5 10 rfl) (fun z79 hz79 => ?_)
                have rz79 : (0 : Int) ≤ z79 ∧ z79 ≤ 6 := by rw [hz79]; exact hI 14 _
                have gz79 := Hd.mk hz79
                have hz79 : z79 = A 14 (4 * (A 0 47) + z72).toNat := hz79.trans (congrFun a_A73_14 _)
                have ez79 : z79 = z78 := hz79.trans hz78.symm
                refine lv_iconst (v := iI 1) hx hb (dk_at dkX12_shutting_5 11 rfl) (by decide +kernel) ?_
                refine x_addv (v := z79 + 1) hx hb (dk_at dkX12_shutting_5 12 rfl) (by omega) ?_
                refine x_iast hx hb hK hP hDD hS 14 1 wm14 rfl (by omega) (by decide) (dk_at dkX12_shutting_5 13 rfl) ws14 (fun H locs hP hS => ?_)
                have hI := hI.st (j := 14) (i := (4 * (A 0 47) + z72).toNat) (v := z79 + 1) (show (0 : Int) ≤ z79 + 1 ∧ z79 + 1 ≤ 6 from (by omega))
                obtain ⟨A80, hA80⟩ : ∃ A80 : St, A80 = (stA (stA A73 15 (40 * (A 0 47) + 10 * z72 + z78).toNat z7) 14 (4 * (A 0 47) + z72).toNat (z79 + 1)) := ⟨_, rfl⟩
                rw [← hA80] at hP hI
                have e_A80_4 : A80 0 4 = (A73 0 4) := by rw [hA80]; exact rfl
                have e_A80_8 : A80 0 8 = (A73 0 8) := by rw [hA80]; exact rfl
                exact RET _ _ _ _ _ ⟨(u_r_X12_shutting ⟨z1, A2, ghw3, (Or.inl ⟨c6, ⟨z7, A8, ghw9, ⟨A12, ghw13, (Or.inr ⟨c16, (Or.inr ⟨c27, ⟨z38, ghw40, (Or.inr ⟨c41, ⟨z52, ghw54, (Or.inr ⟨c55, ⟨z65, ghw67, (Or.inl ⟨c68, ⟨A69, ghw70, ⟨z72, A73, ghw74, (Or.inl ⟨c77, ⟨z78, gz78.out, ⟨z79, gz79.out, ⟨A80, hA80, rfl⟩⟩⟩⟩)⟩⟩⟩)⟩⟩)⟩⟩)⟩⟩)⟩)⟩⟩⟩)⟩), hI, fr_def hA80 (fr.st (fr.st (fr.trans (fr.trans (fr.trans (fr.trans (fr.trans (fr.rf) hf4 rfl rfl) hf10 rfl rfl) hf14 rfl rfl) hf71 rfl rfl) hf75 rfl rfl) (by decide) rfl) (by decide) rfl), (CB.fr hc76 (fr_def hA80 (fr.st (fr.st (fr.rf (M := [14, 15]) (N := [])) (by decide) rfl) (by decide) rfl)) rfl rfl), by omega⟩ hP hS (dk_at dkX12_shutting_5 14 rfl)
              · have c77 : ¬ (A73 0 8) ≤ 0 := mt (i_le0 (rb r_A73_0_8 (by decide) (by decide))).mpr c77
                exact RET _ _ _ _ _ ⟨(u_r_X12_shutting ⟨z1, A2, ghw3, (Or.inl ⟨c6, ⟨z7, A8, ghw9, ⟨A12, ghw13, (Or.inr ⟨c16, (Or.inr ⟨c27, ⟨z38, ghw40, (Or.inr ⟨c41, ⟨z52, ghw54, (Or.inr ⟨c55, ⟨z65, ghw67, (Or.inl ⟨c68, ⟨A69, ghw70, ⟨z72, A73, ghw74, (Or.inr ⟨c77, rfl⟩)⟩⟩⟩)⟩⟩)⟩⟩)⟩⟩)⟩)⟩⟩⟩)⟩), hI, fr.trans (fr.trans (fr.trans (fr.trans (fr.trans (fr.rf) hf4 rfl rfl) hf10 rfl rfl) hf14 rfl rfl) hf71 rfl rfl) hf75 rfl rfl, hc76, by omega⟩ hP hS (dk_at dkX12_shutting_4 9 rfl)
            · have c68 : z65 = 0 := (i_eq0 (rb hw67 (by decide) (by decide))).mp c68
              refine lv_aload_n hx hb (dk_at dkX12_shutting_2 13 rfl) rfl (lv_at hl 2 rfl) ?_
              refine va_get (D := (dC, dI)) (ci := 12) (v := .ref (q 14)) (C := RX12) (T := TX12) (N := 85) hx hb hts hiX12 hown hK hP 0 wm0 rfl 25 (by decide) (hts _ (List.mem_cons_of_mem _ wlq_2_59)) (fun _ h9 => h9) rfl (dk_at dkX12_shutting_2 14 rfl) ?_
              refine lv_iconst (v := iI 4) hx hb (dk_at dkX12_shutting_2 15 rfl) (by decide +kernel) ?_
              refine lv_aload_n hx hb (dk_at dkX12_shutting_3 0 rfl) rfl (lv_at hl 2 rfl) ?_
              refine va_get (D := (dC, dI)) (ci := 12) (v := .int (iI (A12 0 47))) (C := RX12) (T := TX12) (N := 85) hx hb hts hiX12 hown hK hP 0 wm0 rfl 47 (by decide) (hts _ (List.mem_cons_of_mem _ wlq_1_12)) (fun _ h9 => h9) rfl (dk_at dkX12_shutting_3 1 rfl) ?_
              refine tp_i (y := iI (A 0 47)) (congrArg iI e_A12_47) ?_
              refine x_mulv (v := 4 * (A 0 47)) hx hb (dk_at dkX12_shutting_3 2 rfl) (by omega) ?_
              refine lv_iload_n hx hb (dk_at dkX12_shutting_3 3 rfl) rfl (lv_at hl 0 rfl) ?_
              refine x_addv (v := 4 * (A 0 47) + z52) hx hb (dk_at dkX12_shutting_3 4 rfl) (by omega) ?_
              have a_A2_14 : A2 14 = A 14 := (hf4.1 14 (by decide) rfl)
              have a_A8_14 : A8 14 = A 14 := (hf10.1 14 (by decide) rfl).trans a_A2_14
              have a_A12_14 : A12 14 = A 14 := (hf14.1 14 (by decide) rfl).trans a_A8_14
              refine x_iald hx hb hK hP 14 1 wm14 rfl (by omega) (by decide) (dk_at dkX12_shutting_3 5 rfl) (fun z81 hz81 => ?_)
              have rz81 : (0 : Int) ≤ z81 ∧ z81 ≤ 6 := by rw [hz81]; exact hI 14 _
              have gz81 := Hd.mk hz81
              have hz81 : z81 = A 14 (4 * (A 0 47) + z52).toNat := hz81.trans (congrFun a_A12_14 _)
              refine lv_bipush (v := iI 6) hx hb (dk_at dkX12_shutting_3 6 rfl) (by decide +kernel) ?_
              refine lv_icmp_ne (tgt := 110) hx hb (dk_at dkX12_shutting_3 7 rfl) (by decide) (fun c82 => ?_) (fun c82 => ?_)
              · have c82 : ¬ z81 = 6 := mt (i_eq (rb rz81 (by decide) (by decide)) ⟨by decide, by decide⟩).mpr c82
                refine lv_iconst (v := iI 4) hx hb (dk_at dkX12_shutting_3 13 rfl) (by decide +kernel) ?_
                refine lv_aload_n hx hb (dk_at dkX12_shutting_3 14 rfl) rfl (lv_at hl 2 rfl) ?_
                refine va_get (D := (dC, dI)) (ci := 12) (v := .int (iI (A12 0 47))) (C := RX12) (T := TX12) (N := 85) hx hb hts hiX12 hown hK hP 0 wm0 rfl 47 (by decide) (hts _ (List.mem_cons_of_mem _ wlq_1_12)) (fun _ h9 => h9) rfl (dk_at dkX12_shutting_3 15 rfl) ?_
                refine tp_i (y := iI (A 0 47)) (congrArg iI e_A12_47) ?_
                refine x_mulv (v := 4 * (A 0 47)) hx hb (dk_at dkX12_shutting_4 0 rfl) (by omega) ?_
                refine lv_aload_n hx hb (dk_at dkX12_shutting_4 1 rfl) rfl (lv_at hl 2 rfl) ?_
                refine lv_iconst (v := iI 2) hx hb (dk_at dkX12_shutting_4 2 rfl) (by decide +kernel) ?_
                refine x_calli (As := [.int (iI 2)]) (rest := [.int (iI (4 * (A 0 47)))]) ⟨hx, hb, hml, hown, hts⟩ (mb_X12_asked_2 l dC dI cB cI cJ cZ cQ q _ 2 hI ⟨by decide, by decide⟩ hc15) (cwV 1 hts (goodV wlq_2_47 wlq_2_48 wlq_2_49 wlq_0_8 wlq_2_29) rfl rfl rfl (by decide +kernel) ⟨Nat.le_of_ble_eq_true rfl, Nat.le_of_ble_eq_true rfl⟩) hK hDD hA0 hP hS 0 12 wm0 rfl rfl hl.1 (Nat.le_of_ble_eq_true rfl) (dk_at dkX12_shutting_4 3 rfl) (fun z83 A84 H locs hw85 hP hS => ?_)
                have ghw85 : q_X12_asked_2 2 A12 z83 A84 := hw85
                obtain ⟨_, hI, hf86, hw85⟩ := hw85
                obtain ⟨hc87, hw85⟩ := hw85
                have r_A84_0_4 : (0 : Int) ≤ (A84 0 4) ∧ (A84 0 4) ≤ 1600 := hI 0 4
                have r_A84_0_8 : (0 : Int) ≤ (A84 0 8) ∧ (A84 0 8) ≤ 5 := hI 0 8
                refine x_addv (v := 4 * (A 0 47) + z83) hx hb (dk_at dkX12_shutting_4 4 rfl) (by omega) ?_
                refine lv_istore_n (lv' := [(2, .int (iI (4 * (A 0 47) + z83))), (1, .int (iI z7)), (0, .ref (q 0))]) hx hb (dk_at dkX12_shutting_4 5 rfl) rfl hl (by decide) rfl (fun ls hl => ?_)
                refine lv_aload_n hx hb (dk_at dkX12_shutting_4 6 rfl) rfl (lv_at hl 2 rfl) ?_
                refine va_get (D := (dC, dI)) (ci := 12) (v := .int (iI (A84 0 8))) (C := RX12) (T := TX12) (N := 85) hx hb hts hiX12 hown hK hP 0 wm0 rfl 8 (by decide) (hts _ (List.mem_cons_of_mem _ wlq_0_16)) (fun _ h9 => h9) rfl (dk_at dkX12_shutting_4 7 rfl) ?_
                refine lv_if_le (tgt := 131) hx hb (dk_at dkX12_shutting_4 8 rfl) (by decide) (fun c88 => ?_) (fun c88 => ?_)
                · have c88 : (A84 0 8) ≤ 0 := (i_le0 (rb r_A84_0_8 (by decide) (by decide))).mp c88
                  have ga := hw85.2.2.2.out (by omega)
                  rw [a_A12_12, a_A12_11, e_A12_47] at ga
                  have ez : z52 = z83 := by omega
                  rw [ez] at hz81
                  refine lv_aload_n hx hb (dk_at dkX12_shutting_4 10 rfl) rfl (lv_at hl 2 rfl) ?_
                  refine va_get (D := (dC, dI)) (ci := 12) (v := .ref (q 15)) (C := RX12) (T := TX12) (N := 85) hx hb hts hiX12 hown hK hP 0 wm0 rfl 26 (by decide) (hts _ (List.mem_cons_of_mem _ wlq_3_7)) (fun _ h9 => h9) rfl (dk_at dkX12_shutting_4 11 rfl) ?_
                  refine lv_bipush (v := iI 10) hx hb (dk_at dkX12_shutting_4 12 rfl) (by decide +kernel) ?_
                  refine lv_iload_n hx hb (dk_at dkX12_shutting_4 13 rfl) rfl (lv_at hl 0 rfl) ?_
                  refine x_mulv (v := 40 * (A 0 47) + 10 * z83) hx hb (dk_at dkX12_shutting_4 14 rfl) (by omega) ?_
                  refine lv_aload_n hx hb (dk_at dkX12_shutting_4 15 rfl) rfl (lv_at hl 2 rfl) ?_
                  refine va_get (D := (dC, dI)) (ci := 12) (v := .ref (q 14)) (C := RX12) (T := TX12) (N := 85) hx hb hts hiX12 hown hK hP 0 wm0 rfl 25 (by decide) (hts _ (List.mem_cons_of_mem _ wlq_2_59)) (fun _ h9 => h9) rfl (dk_at dkX12_shutting_5 0 rfl) ?_
                  refine lv_iload_n hx hb (dk_at dkX12_shutting_5 1 rfl) rfl (lv_at hl 0 rfl) ?_
                  have a_A84_14 : A84 14 = A 14 := (hf86.1 14 (by decide) rfl).trans a_A12_14
                  refine x_iald hx hb hK hP 14 1 wm14 rfl (by omega) (by decide) (dk_at dkX12_shutting_5 2 rfl) (fun z89 hz89 => ?_)
                  have rz89 : (0 : Int) ≤ z89 ∧ z89 ≤ 6 := by rw [hz89]; exact hI 14 _
                  have gz89 := Hd.mk hz89
                  have hz89 : z89 = A 14 (4 * (A 0 47) + z83).toNat := hz89.trans (congrFun a_A84_14 _)
                  refine x_addv (v := 40 * (A 0 47) + 10 * z83 + z89) hx hb (dk_at dkX12_shutting_5 3 rfl) (by omega) ?_
                  refine lv_iload_n hx hb (dk_at dkX12_shutting_5 4 rfl) rfl (lv_at hl 1 rfl) ?_
                  refine x_iast hx hb hK hP hDD hS 15 1 wm15 rfl (by omega) (by decide) (dk_at dkX12_shutting_5 5 rfl) ws15 (fun H locs hP hS => ?_)
                  have hI := hI.st (j := 15) (i := (40 * (A 0 47) + 10 * z83 + z89).toNat) (v := z7) (show (0 : Int) ≤ z7 ∧ z7 ≤ 9 from (by omega))
                  refine lv_aload_n hx hb (dk_at dkX12_shutting_5 6 rfl) rfl (lv_at hl 2 rfl) ?_
                  refine va_get (D := (dC, dI)) (ci := 12) (v := .ref (q 14)) (C := RX12) (T := TX12) (N := 85) hx hb hts hiX12 hown hK hP 0 wm0 rfl 25 (by decide) (hts _ (List.mem_cons_of_mem _ wlq_2_59)) (fun _ h9 => h9) rfl (dk_at dkX12_shutting_5 7 rfl) ?_
                  refine lv_iload_n hx hb (dk_at dkX12_shutting_5 8 rfl) rfl (lv_at hl 0 rfl) ?_
                  refine lv_dup2_11 hx hb (dk_at dkX12_shutting_5 9 rfl) rfl rfl ?_
                  refine x_iald hx hb hK hP 14 1 wm14 rfl (by omega) (by decide) (dk_at dkX12_shutting_5 10 rfl) (fun z90 hz90 => ?_)
                  have rz90 : (0 : Int) ≤ z90 ∧ z90 ≤ 6 := by rw [hz90]; exact hI 14 _
                  have gz90 := Hd.mk hz90
                  have hz90 : z90 = A 14 (4 * (A 0 47) + z83).toNat := hz90.trans (congrFun a_A84_14 _)
                  have ez90 : z90 = z89 := hz90.trans hz89.symm
                  refine lv_iconst (v := iI 1) hx hb (dk_at dkX12_shutting_5 11 rfl) (by decide +kernel) ?_
                  refine x_addv (v := z90 + 1) hx hb (dk_at dkX12_shutting_5 12 rfl) (by omega) ?_
                  refine x_iast hx hb hK hP hDD hS 14 1 wm14 rfl (by omega) (by decide) (dk_at dkX12_shutting_5 13 rfl) ws14 (fun H locs hP hS => ?_)
                  have hI := hI.st (j := 14) (i := (4 * (A 0 47) + z83).toNat) (v := z90 + 1) (show (0 : Int) ≤ z90 + 1 ∧ z90 + 1 ≤ 6 from (by omega))
                  obtain ⟨A91, hA91⟩ : ∃ A91 : St, A91 = (stA (stA A84 15 (40 * (A 0 47) + 10 * z83 + z89).toNat z7) 14 (4 * (A 0 47) + z83).toNat (z90 + 1)) := ⟨_, rfl⟩
                  rw [← hA91] at hP hI
                  have e_A91_4 : A91 0 4 = (A84 0 4) := by rw [hA91]; exact rfl
                  have e_A91_8 : A91 0 8 = (A84 0 8) := by rw [hA91]; exact rfl
                  exact RET _ _ _ _ _ ⟨(u_r_X12_shutting ⟨z1, A2, ghw3, (Or.inl ⟨c6, ⟨z7, A8, ghw9, ⟨A12, ghw13, (Or.inr ⟨c16, (Or.inr ⟨c27, ⟨z38, ghw40, (Or.inr ⟨c41, ⟨z52, ghw54, (Or.inr ⟨c55, ⟨z65, ghw67, (Or.inr ⟨c68, ⟨z81, gz81.out, (Or.inl ⟨c82, ⟨z83, A84, ghw85, (Or.inl ⟨c88, ⟨z89, gz89.out, ⟨z90, gz90.out, ⟨A91, hA91, rfl⟩⟩⟩⟩)⟩⟩)⟩⟩)⟩⟩)⟩⟩)⟩⟩)⟩)⟩⟩⟩)⟩), hI, fr_def hA91 (fr.st (fr.st (fr.trans (fr.trans (fr.trans (fr.trans (fr.rf) hf4 rfl rfl) hf10 rfl rfl) hf14 rfl rfl) hf86 rfl rfl) (by decide) rfl) (by decide) rfl), (CB.fr hc87 (fr_def hA91 (fr.st (fr.st (fr.rf (M := [14, 15]) (N := [])) (by decide) rfl) (by decide) rfl)) rfl rfl), by omega⟩ hP hS (dk_at dkX12_shutting_5 14 rfl)
                · have c88 : ¬ (A84 0 8) ≤ 0 := mt (i_le0 (rb r_A84_0_8 (by decide) (by decide))).mpr c88
                  exact RET _ _ _ _ _ ⟨(u_r_X12_shutting ⟨z1, A2, ghw3, (Or.inl ⟨c6, ⟨z7, A8, ghw9, ⟨A12, ghw13, (Or.inr ⟨c16, (Or.inr ⟨c27, ⟨z38, ghw40, (Or.inr ⟨c41, ⟨z52, ghw54, (Or.inr ⟨c55, ⟨z65, ghw67, (Or.inr ⟨c68, ⟨z81, gz81.out, (Or.inl ⟨c82, ⟨z83, A84, ghw85, (Or.inr ⟨c88, rfl⟩)⟩⟩)⟩⟩)⟩⟩)⟩⟩)⟩⟩)⟩)⟩⟩⟩)⟩), hI, fr.trans (fr.trans (fr.trans (fr.trans (fr.rf) hf4 rfl rfl) hf10 rfl rfl) hf14 rfl rfl) hf86 rfl rfl, hc87, by omega⟩ hP hS (dk_at dkX12_shutting_4 9 rfl)
              · have c82 : z81 = 6 := (i_eq (rb rz81 (by decide) (by decide)) ⟨by decide, by decide⟩).mp c82
                refine lv_aload_n hx hb (dk_at dkX12_shutting_3 8 rfl) rfl (lv_at hl 2 rfl) ?_
                refine lv_iconst (v := iI 3) hx hb (dk_at dkX12_shutting_3 9 rfl) (by decide +kernel) ?_
                refine lv_aload_n hx hb (dk_at dkX12_shutting_3 10 rfl) rfl (lv_at hl 2 rfl) ?_
                refine va_get (D := (dC, dI)) (ci := 12) (v := .int (iI (A12 0 4))) (C := RX12) (T := TX12) (N := 85) hx hb hts hiX12 hown hK hP 0 wm0 rfl 4 (by decide) (hts _ (List.mem_cons_of_mem _ wlq_0_23)) (fun _ h9 => h9) rfl (dk_at dkX12_shutting_3 11 rfl) ?_
                refine x_callv (As := [.int (iI 3), .int (iI (A12 0 4))]) (rest := []) ⟨hx, hb, hml, hown, hts⟩ (mc_X12_blame l dC dI cB cI cJ cZ cQ q _ 3 (A12 0 4) hI ⟨by decide, by decide⟩ r_A12_0_4) (cwV 2 hts (goodV wlq_0_31 wlq_0_32 wlq_0_33 wlq_0_8 wlq_0_15) rfl rfl rfl (by decide +kernel) ⟨Nat.le_of_ble_eq_true rfl, Nat.le_of_ble_eq_true rfl⟩) hK hDD hA0 hP hS 0 12 wm0 rfl rfl hl.1 (Nat.le_of_ble_eq_true rfl) (dk_at dkX12_shutting_3 12 rfl) (fun A92 H locs hw93 hP hS => ?_)
                have ghw93 : q_X12_blame 3 (A12 0 4) A12 A92 := hw93
                obtain ⟨_, hI, hf94, hw93⟩ := hw93
                have r_A92_0_8 : (0 : Int) ≤ (A92 0 8) ∧ (A92 0 8) ≤ 5 := hI 0 8
                refine lv_iconst (v := iI 4) hx hb (dk_at dkX12_shutting_3 13 rfl) (by decide +kernel) ?_
                refine lv_aload_n hx hb (dk_at dkX12_shutting_3 14 rfl) rfl (lv_at hl 2 rfl) ?_
                have e_A92_47 : A92 0 47 = (A 0 47) := (hf94.2 47 rfl).trans e_A12_47
                refine va_get (D := (dC, dI)) (ci := 12) (v := .int (iI (A92 0 47))) (C := RX12) (T := TX12) (N := 85) hx hb hts hiX12 hown hK hP 0 wm0 rfl 47 (by decide) (hts _ (List.mem_cons_of_mem _ wlq_1_12)) (fun _ h9 => h9) rfl (dk_at dkX12_shutting_3 15 rfl) ?_
                refine tp_i (y := iI (A 0 47)) (congrArg iI e_A92_47) ?_
                refine x_mulv (v := 4 * (A 0 47)) hx hb (dk_at dkX12_shutting_4 0 rfl) (by omega) ?_
                refine lv_aload_n hx hb (dk_at dkX12_shutting_4 1 rfl) rfl (lv_at hl 2 rfl) ?_
                refine lv_iconst (v := iI 2) hx hb (dk_at dkX12_shutting_4 2 rfl) (by decide +kernel) ?_
                have e_A92_3 : A92 0 3 = (A12 0 3) := (hf94.2 3 rfl)
                have e_A92_4 : A92 0 4 = (A12 0 4) := (hf94.2 4 rfl)
                have e_A92_7 : A92 0 7 = (A12 0 7) := (hf94.2 7 rfl)
                refine x_calli (As := [.int (iI 2)]) (rest := [.int (iI (4 * (A 0 47)))]) ⟨hx, hb, hml, hown, hts⟩ (mb_X12_asked_2 l dC dI cB cI cJ cZ cQ q _ 2 hI ⟨by decide, by decide⟩ (CB.fr hc15 hf94 rfl rfl)) (cwV 1 hts (goodV wlq_2_47 wlq_2_48 wlq_2_49 wlq_0_8 wlq_2_29) rfl rfl rfl (by decide +kernel) ⟨Nat.le_of_ble_eq_true rfl, Nat.le_of_ble_eq_true rfl⟩) hK hDD hA0 hP hS 0 12 wm0 rfl rfl hl.1 (Nat.le_of_ble_eq_true rfl) (dk_at dkX12_shutting_4 3 rfl) (fun z95 A96 H locs hw97 hP hS => ?_)
                have ghw97 : q_X12_asked_2 2 A92 z95 A96 := hw97
                obtain ⟨_, hI, hf98, hw97⟩ := hw97
                obtain ⟨hc99, hw97⟩ := hw97
                have r_A96_0_4 : (0 : Int) ≤ (A96 0 4) ∧ (A96 0 4) ≤ 1600 := hI 0 4
                have r_A96_0_8 : (0 : Int) ≤ (A96 0 8) ∧ (A96 0 8) ≤ 5 := hI 0 8
                refine x_addv (v := 4 * (A 0 47) + z95) hx hb (dk_at dkX12_shutting_4 4 rfl) (by omega) ?_
                refine lv_istore_n (lv' := [(2, .int (iI (4 * (A 0 47) + z95))), (1, .int (iI z7)), (0, .ref (q 0))]) hx hb (dk_at dkX12_shutting_4 5 rfl) rfl hl (by decide) rfl (fun ls hl => ?_)
                refine lv_aload_n hx hb (dk_at dkX12_shutting_4 6 rfl) rfl (lv_at hl 2 rfl) ?_
                refine va_get (D := (dC, dI)) (ci := 12) (v := .int (iI (A96 0 8))) (C := RX12) (T := TX12) (N := 85) hx hb hts hiX12 hown hK hP 0 wm0 rfl 8 (by decide) (hts _ (List.mem_cons_of_mem _ wlq_0_16)) (fun _ h9 => h9) rfl (dk_at dkX12_shutting_4 7 rfl) ?_
                refine lv_if_le (tgt := 131) hx hb (dk_at dkX12_shutting_4 8 rfl) (by decide) (fun c100 => ?_) (fun c100 => ?_)
                · have c100 : (A96 0 8) ≤ 0 := (i_le0 (rb r_A96_0_8 (by decide) (by decide))).mp c100
                  have ga := hw97.2.2.2.out (by omega)
                  have a_A92_12 : A92 12 = A 12 := (hf94.1 12 (by decide) rfl).trans a_A12_12
                  have a_A92_11 : A92 11 = A 11 := (hf94.1 11 (by decide) rfl).trans a_A12_11
                  rw [a_A92_12, a_A92_11, e_A92_47, e_A92_7] at ga
                  have ez : z52 = z95 := by omega
                  rw [ez] at hz81
                  refine lv_aload_n hx hb (dk_at dkX12_shutting_4 10 rfl) rfl (lv_at hl 2 rfl) ?_
                  refine va_get (D := (dC, dI)) (ci := 12) (v := .ref (q 15)) (C := RX12) (T := TX12) (N := 85) hx hb hts hiX12 hown hK hP 0 wm0 rfl 26 (by decide) (hts _ (List.mem_cons_of_mem _ wlq_3_7)) (fun _ h9 => h9) rfl (dk_at dkX12_shutting_4 11 rfl) ?_
                  refine lv_bipush (v := iI 10) hx hb (dk_at dkX12_shutting_4 12 rfl) (by decide +kernel) ?_
                  refine lv_iload_n hx hb (dk_at dkX12_shutting_4 13 rfl) rfl (lv_at hl 0 rfl) ?_
                  refine x_mulv (v := 40 * (A 0 47) + 10 * z95) hx hb (dk_at dkX12_shutting_4 14 rfl) (by omega) ?_
                  refine lv_aload_n hx hb (dk_at dkX12_shutting_4 15 rfl) rfl (lv_at hl 2 rfl) ?_
                  refine va_get (D := (dC, dI)) (ci := 12) (v := .ref (q 14)) (C := RX12) (T := TX12) (N := 85) hx hb hts hiX12 hown hK hP 0 wm0 rfl 25 (by decide) (hts _ (List.mem_cons_of_mem _ wlq_2_59)) (fun _ h9 => h9) rfl (dk_at dkX12_shutting_5 0 rfl) ?_
                  refine lv_iload_n hx hb (dk_at dkX12_shutting_5 1 rfl) rfl (lv_at hl 0 rfl) ?_
                  have a_A92_14 : A92 14 = A 14 := (hf94.1 14 (by decide) rfl).trans a_A12_14
                  have a_A96_14 : A96 14 = A 14 := (hf98.1 14 (by decide) rfl).trans a_A92_14
                  refine x_iald hx hb hK hP 14 1 wm14 rfl (by omega) (by decide) (dk_at dkX12_shutting_5 2 rfl) (fun z101 hz101 => ?_)
                  have rz101 : (0 : Int) ≤ z101 ∧ z101 ≤ 6 := by rw [hz101]; exact hI 14 _
                  have gz101 := Hd.mk hz101
                  have hz101 : z101 = A 14 (4 * (A 0 47) + z95).toNat := hz101.trans (congrFun a_A96_14 _)
                  refine x_addv (v := 40 * (A 0 47) + 10 * z95 + z101) hx hb (dk_at dkX12_shutting_5 3 rfl) (by omega) ?_
                  refine lv_iload_n hx hb (dk_at dkX12_shutting_5 4 rfl) rfl (lv_at hl 1 rfl) ?_
                  refine x_iast hx hb hK hP hDD hS 15 1 wm15 rfl (by omega) (by decide) (dk_at dkX12_shutting_5 5 rfl) ws15 (fun H locs hP hS => ?_)
                  have hI := hI.st (j := 15) (i := (40 * (A 0 47) + 10 * z95 + z101).toNat) (v := z7) (show (0 : Int) ≤ z7 ∧ z7 ≤ 9 from (by omega))
                  refine lv_aload_n hx hb (dk_at dkX12_shutting_5 6 rfl) rfl (lv_at hl 2 rfl) ?_
                  refine va_get (D := (dC, dI)) (ci := 12) (v := .ref (q 14)) (C := RX12) (T := TX12) (N := 85) hx hb hts hiX12 hown hK hP 0 wm0 rfl 25 (by decide) (hts _ (List.mem_cons_of_mem _ wlq_2_59)) (fun _ h9 => h9) rfl (dk_at dkX12_shutting_5 7 rfl) ?_
                  refine lv_iload_n hx hb (dk_at dkX12_shutting_5 8 rfl) rfl (lv_at hl 0 rfl) ?_
                  refine lv_dup2_11 hx hb (dk_at dkX12_shutting_5 9 rfl) rfl rfl ?_
                  refine x_iald hx hb hK hP 14 1 wm14 rfl (by omega) (by decide) (dk_at dkX12_shutting_5 10 rfl) (fun z102 hz102 => ?_)
                  have rz102 : (0 : Int) ≤ z102 ∧ z102 ≤ 6 := by rw [hz102]; exact hI 14 _
                  have gz102 := Hd.mk hz102
                  have hz102 : z102 = A 14 (4 * (A 0 47) + z95).toNat := hz102.trans (congrFun a_A96_14 _)
                  have ez102 : z102 = z101 := hz102.trans hz101.symm
                  refine lv_iconst (v := iI 1) hx hb (dk_at dkX12_shutting_5 11 rfl) (by decide +kernel) ?_
                  refine x_addv (v := z102 + 1) hx hb (dk_at dkX12_shutting_5 12 rfl) (by omega) ?_
                  refine x_iast hx hb hK hP hDD hS 14 1 wm14 rfl (by omega) (by decide) (dk_at dkX12_shutting_5 13 rfl) ws14 (fun H locs hP hS => ?_)
                  have hI := hI.st (j := 14) (i := (4 * (A 0 47) + z95).toNat) (v := z102 + 1) (show (0 : Int) ≤ z102 + 1 ∧ z102 + 1 ≤ 6 from (by omega))
                  obtain ⟨A103, hA103⟩ : ∃ A103 : St, A103 = (stA (stA A96 15 (40 * (A 0 47) + 10 * z95 + z101).toNat z7) 14 (4 * (A 0 47) + z95).toNat (z102 + 1)) := ⟨_, rfl⟩
                  rw [← hA103] at hP hI
                  have e_A103_4 : A103 0 4 = (A96 0 4) := by rw [hA103]; exact rfl
                  have e_A103_8 : A103 0 8 = (A96 0 8) := by rw [hA103]; exact rfl
                  exact RET _ _ _ _ _ ⟨(u_r_X12_shutting ⟨z1, A2, ghw3, (Or.inl ⟨c6, ⟨z7, A8, ghw9, ⟨A12, ghw13, (Or.inr ⟨c16, (Or.inr ⟨c27, ⟨z38, ghw40, (Or.inr ⟨c41, ⟨z52, ghw54, (Or.inr ⟨c55, ⟨z65, ghw67, (Or.inr ⟨c68, ⟨z81, gz81.out, (Or.inr ⟨c82, ⟨A92, ghw93, ⟨z95, A96, ghw97, (Or.inl ⟨c100, ⟨z101, gz101.out, ⟨z102, gz102.out, ⟨A103, hA103, rfl⟩⟩⟩⟩)⟩⟩⟩)⟩⟩)⟩⟩)⟩⟩)⟩⟩)⟩)⟩⟩⟩)⟩), hI, fr_def hA103 (fr.st (fr.st (fr.trans (fr.trans (fr.trans (fr.trans (fr.trans (fr.rf) hf4 rfl rfl) hf10 rfl rfl) hf14 rfl rfl) hf94 rfl rfl) hf98 rfl rfl) (by decide) rfl) (by decide) rfl), (CB.fr hc99 (fr_def hA103 (fr.st (fr.st (fr.rf (M := [14, 15]) (N := [])) (by decide) rfl) (by decide) rfl)) rfl rfl), by omega⟩ hP hS (dk_at dkX12_shutting_5 14 rfl)
                · have c100 : ¬ (A96 0 8) ≤ 0 := mt (i_le0 (rb r_A96_0_8 (by decide) (by decide))).mpr c100
                  exact RET _ _ _ _ _ ⟨(u_r_X12_shutting ⟨z1, A2, ghw3, (Or.inl ⟨c6, ⟨z7, A8, ghw9, ⟨A12, ghw13, (Or.inr ⟨c16, (Or.inr ⟨c27, ⟨z38, ghw40, (Or.inr ⟨c41, ⟨z52, ghw54, (Or.inr ⟨c55, ⟨z65, ghw67, (Or.inr ⟨c68, ⟨z81, gz81.out, (Or.inr ⟨c82, ⟨A92, ghw93, ⟨z95, A96, ghw97, (Or.inr ⟨c100, rfl⟩)⟩⟩⟩)⟩⟩)⟩⟩)⟩⟩)⟩⟩)⟩)⟩⟩⟩)⟩), hI, fr.trans (fr.trans (fr.trans (fr.trans (fr.trans (fr.rf) hf4 rfl rfl) hf10 rfl rfl) hf14 rfl rfl) hf94 rfl rfl) hf98 rfl rfl, hc99, by omega⟩ hP hS (dk_at dkX12_shutting_4 9 rfl)
  · have c6 : z1 = 0 := (i_eq0 (rb rz1 (by decide) (by decide))).mp c6
    exact RET _ _ _ _ _ ⟨(u_r_X12_shutting ⟨z1, A2, ghw3, (Or.inr ⟨c6, rfl⟩)⟩), hI, fr.trans (fr.rf) hf4 rfl rfl, hc5, by omega⟩ hP hS (dk_at dkX12_shutting_0 4 rfl)
theorem dkX12_wanting_0 : dkq cX12_wanting [(0, .aload_n 0, 1), (1, .aload_n 0, 1), (2, .getfield 113, 3), (5, .aload_n 0, 1), (6, .getfield 155, 3), (9, .iaload, 1), (10, .bipush 6, 2), (12, .if_icmp .ne 7, 3), (15, .iconst 1, 1), (16, .goto 4, 3), (19, .iconst 0, 1), (20, .invokevirtual 394, 3), (23, .ifCond .ne 4, 3), (26, .return_, 1), (27, .bipush 6, 2), (29, .aload_n 0, 1)] = true := by decide +kernel
theorem dkX12_wanting_1 : dkq cX12_wanting [(30, .getfield 155, 3), (33, .imul, 1), (34, .aload_n 0, 1), (35, .getfield 113, 3), (38, .aload_n 0, 1), (39, .getfield 155, 3), (42, .iaload, 1), (43, .iadd, 1), (44, .istore_n 1, 1), (45, .aload_n 0, 1), (46, .getfield 36, 3), (49, .ifCond .ne 34, 3), (52, .aload_n 0, 1), (53, .getfield 20, 3), (56, .iconst 1, 1), (57, .if_icmp .ne 26, 3)] = true := by decide +kernel
theorem dkX12_wanting_2 : dkq cX12_wanting [(60, .aload_n 0, 1), (61, .aload_n 0, 1), (62, .getfield 32, 3), (65, .invokevirtual 387, 3), (68, .ifCond .ne 15, 3), (71, .aload_n 0, 1), (72, .iconst 3, 1), (73, .aload_n 0, 1), (74, .getfield 32, 3), (77, .invokevirtual 390, 3), (80, .goto 4, 3), (83, .iconst (-1), 1), (84, .istore_n 2, 1), (85, .iconst 0, 1), (86, .istore_n 3, 1), (87, .bipush 6, 2)] = true := by decide +kernel
theorem dkX12_wanting_3 : dkq cX12_wanting [(89, .aload_n 0, 1), (90, .getfield 155, 3), (93, .imul, 1), (94, .istore 4, 2), (96, .iload 4, 2), (98, .iload_n 1, 1), (99, .if_icmp .ge 28, 3), (102, .iload_n 3, 1), (103, .aload_n 0, 1), (104, .getfield 116, 3), (107, .iload 4, 2), (109, .iaload, 1), (110, .iload_n 2, 1), (111, .if_icmp .ne 7, 3), (114, .iconst 1, 1), (115, .goto 4, 3)] = true := by decide +kernel
theorem dkX12_wanting_4 : dkq cX12_wanting [(118, .iconst 0, 1), (119, .iadd, 1), (120, .istore_n 3, 1), (121, .iinc 4 1, 3), (124, .goto (-28), 3), (127, .iload_n 2, 1), (128, .iconst (-1), 1), (129, .if_icmp .eq 17, 3), (132, .iload_n 3, 1), (133, .iconst 2, 1), (134, .if_icmp .ne 12, 3), (137, .aload_n 0, 1), (138, .iconst 3, 1), (139, .aload_n 0, 1), (140, .getfield 23, 3), (143, .invokevirtual 286, 3)] = true := by decide +kernel
theorem dkX12_wanting_5 : dkq cX12_wanting [(146, .aload_n 0, 1), (147, .getfield 116, 3), (150, .iload_n 1, 1), (151, .aload_n 0, 1), (152, .iconst 3, 1), (153, .invokevirtual 406, 3), (156, .iastore, 1), (157, .bipush 6, 2), (159, .aload_n 0, 1), (160, .getfield 155, 3), (163, .imul, 1), (164, .istore 4, 2), (166, .iload 4, 2), (168, .iload_n 1, 1), (169, .if_icmp .ge 44, 3), (172, .aload_n 0, 1)] = true := by decide +kernel
theorem dkX12_wanting_6 : dkq cX12_wanting [(173, .getfield 36, 3), (176, .ifCond .ne 37, 3), (179, .aload_n 0, 1), (180, .getfield 116, 3), (183, .iload 4, 2), (185, .iaload, 1), (186, .aload_n 0, 1), (187, .getfield 116, 3), (190, .iload_n 1, 1), (191, .iaload, 1), (192, .if_icmp .ne 15, 3), (195, .aload_n 0, 1), (196, .iconst 4, 1), (197, .aload_n 0, 1), (198, .getfield 119, 3), (201, .iload 4, 2)] = true := by decide +kernel
theorem dkX12_wanting_7 : dkq cX12_wanting [(203, .iaload, 1), (204, .invokevirtual 409, 3), (207, .iinc 4 1, 3), (210, .goto (-44), 3), (213, .aload_n 0, 1), (214, .getfield 119, 3), (217, .iload_n 1, 1), (218, .aload_n 0, 1), (219, .iconst 4, 1), (220, .invokevirtual 406, 3), (223, .iastore, 1), (224, .aload_n 0, 1), (225, .getfield 36, 3), (228, .ifCond .ne 16, 3), (231, .aload_n 0, 1), (232, .getfield 113, 3)] = true := by decide +kernel
theorem dkX12_wanting_8 : dkq cX12_wanting [(235, .aload_n 0, 1), (236, .getfield 155, 3), (239, .dup2, 1), (240, .iaload, 1), (241, .iconst 1, 1), (242, .iadd, 1), (243, .iastore, 1), (244, .return_, 1)] = true := by decide +kernel
