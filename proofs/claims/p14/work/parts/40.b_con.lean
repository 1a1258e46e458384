abbrev tr_r_X12_comes (x1 : Int) (A : St) (u : St) : Prop := (∃ A1 : St, q_X12_haves A A1 ∧ (∃ z4 : Int, q_X12_state A1 z4 ∧ (∃ z7 : Int, z7 = A1 47 (z4).toNat ∧ (((z7 = (-1)) ∧ (∃ A9 : St, A9 = (stA (stA (stA A1 47 (z4).toNat x1) 48 ((A 0 66)).toNat z4) 0 66 ((A 0 66) + 1)) ∧ (u = A9))) ∨ ((¬ z7 = (-1)) ∧ (u = A1))))))
def r_X12_comes (x1 : Int) (A : St) (u : St) : Prop := tr_r_X12_comes x1 A u
theorem u_r_X12_comes {x1 : Int} {A : St} {u : St} (h : tr_r_X12_comes x1 A u) : r_X12_comes x1 A u := h
def q_X12_comes (x1 : Int) (A : St) (u : St) : Prop := r_X12_comes x1 A u ∧ IM u ∧ fr [47, 48] [66, 69] A u ∧ (QI u ∧ A 0 66 ≤ u 0 66)
def ws_mc_X12_comes : List Cond := .code yX12_comes cX12_comes 3 none :: WX
set_option maxHeartbeats 4000000 in
set_option maxRecDepth 100000 in
theorem mc_X12_comes (l : Launch) (dC : Nat → ClassId) (dI : Nat → Nat → Nat) (cB cI cJ cZ cQ : ClassId) (q : Nat → Nat) (A : St) (x1 : Int) (hI : IM A) (hx1 : (0 : Int) ≤ x1 ∧ x1 ≤ 76832) (hp0 : QI A) (hp1 : x1 ≤ A 0 66) : XMv l yX12_comes ws_mc_X12_comes ({ frames := 3, cells := 0, slots := 0, locals := 67 } : Room) (dC, dI) (tyA cB cI cJ cZ cQ) (WM cI cJ cZ q) A [.ref (q 0), .int (iI x1)] (fun u => r_X12_comes x1 A u ∧ IM u ∧ fr [47, 48] [66, 69] A u ∧ (QI u ∧ A 0 66 ≤ u 0 66)) := by
  refine x_metv (cc := cX12_comes) (maxL := 3) WM_adr (by decide +kernel) rfl (Nat.le_of_ble_eq_true rfl) (fun p e s m below meth c Q AS ls hx hb hml hown hts hK hDD hA0 hP hS hl RET => ?_)
  have hown : s.vm.findClass RX12 = some m.cls := hown
  have hl : lv_has ls 3 [(0, .ref (q 0)), (1, .int (iI x1))] := hl
  have hiX12 : ∀ w ∈ u_ws RX12 TX12 85, w ∈ ws_mc_X12_comes := fun w h => List.mem_cons_of_mem _ (wx_lay w h)
  obtain ⟨H, hHe⟩ : ∃ H : Heap, H = s.heap := ⟨_, rfl⟩
  rw [← hHe] at hP
  have hS : va_S AS s.heap H [] := by rw [hHe]; exact hS
  suffices hgo : ∀ locs : List Loc, va_S AS s.heap H locs → W p l e (headSpec ws_mc_X12_comes ({ frames := 3, cells := 0, slots := 0, locals := 67 } : Room)).room s m [.ref (q 0), .int (iI x1)].toArray below meth c H locs 0 0 Q (F0 m 0 ls []) by
    have := hgo [] hS
    rw [hHe] at this
    exact this
  clear hS hHe
  intro locs hS
  refine lv_aload_n hx hb dX12_comes_0 rfl (lv_at hl 0 rfl) ?_
  refine x_callv (As := []) (rest := []) ⟨hx, hb, hml, hown, hts⟩ (mc_X12_haves l dC dI cB cI cJ cZ cQ q _ hI) (cwV 0 hts (goodV (wl_in_6 _ (List.mem_of_getElem? (i := 54) rfl)) (wl_in_6 _ (List.mem_of_getElem? (i := 55) rfl)) (wl_in_6 _ (List.mem_of_getElem? (i := 56) rfl)) (wl_in_0 _ (List.mem_of_getElem? (i := 8) rfl)) (wl_in_6 _ (List.mem_of_getElem? (i := 47) rfl))) rfl rfl rfl (by decide +kernel) ⟨Nat.le_of_ble_eq_true rfl, Nat.le_of_ble_eq_true rfl⟩) hK hDD hA0 hP hS 0 12 wm0 rfl rfl hl.1 (Nat.le_of_ble_eq_true rfl) dX12_comes_1 (fun A1 H locs hw2 hP hS => ?_)
  have ghw2 : q_X12_haves A A1 := hw2
  obtain ⟨_, hI, hf3, hw2⟩ := hw2
  clear hw2
  refine lv_aload_n hx hb dX12_comes_4 rfl (lv_at hl 0 rfl) ?_
  refine x_calli (As := []) (rest := []) ⟨hx, hb, hml, hown, hts⟩ (mc_X12_state l dC dI cB cI cJ cZ cQ q _ hI) (cwV 0 hts (goodV (wl_in_6 _ (List.mem_of_getElem? (i := 57) rfl)) (wl_in_6 _ (List.mem_of_getElem? (i := 58) rfl)) (wl_in_6 _ (List.mem_of_getElem? (i := 59) rfl)) (wl_in_0 _ (List.mem_of_getElem? (i := 8) rfl)) (wl_in_6 _ (List.mem_of_getElem? (i := 37) rfl))) rfl rfl rfl (by decide +kernel) ⟨Nat.le_of_ble_eq_true rfl, Nat.le_of_ble_eq_true rfl⟩) hK hDD hA0 hP hS 0 12 wm0 rfl rfl hl.1 (Nat.le_of_ble_eq_true rfl) dX12_comes_5 (fun z4 A5 H locs hw6 hP hS => ?_)
  obtain ⟨rfl, hw6⟩ := hw6
  have ghw6 : q_X12_state A1 z4 := hw6
  have hw6 := hw6.2
  refine lv_istore_n (lv' := [(2, .int (iI z4)), (0, .ref (q 0)), (1, .int (iI x1))]) hx hb dX12_comes_8 rfl hl (by decide) rfl (fun ls hl => ?_)
  refine lv_aload_n hx hb dX12_comes_9 rfl (lv_at hl 1 rfl) ?_
  refine va_get (D := (dC, dI)) (ci := 12) (v := .ref (q 47)) (C := RX12) (T := TX12) (N := 85) hx hb hts hiX12 hown hK hP 0 wm0 rfl 64 (by decide) (hts _ (List.mem_cons_of_mem _ (wl_in_6 _ (List.mem_of_getElem? (i := 51) rfl)))) (fun _ h9 => h9) rfl dX12_comes_10 ?_
  refine lv_iload_n hx hb dX12_comes_13 rfl (lv_at hl 0 rfl) ?_
  have a_A1_47 : A1 47 = A 47 := (hf3.1 47 (by decide) rfl)
  refine x_iald hx hb hK hP 47 1 wm47 rfl (by omega) (by decide) dX12_comes_14 (fun z7 hz7 => ?_)
  have rz7 : (-1 : Int) ≤ z7 ∧ z7 ≤ 76832 := by rw [hz7]; exact hI 47 _
  have gz7 := Hd.mk hz7
  have hz7 : z7 = A 47 (z4).toNat := hz7.trans (congrFun a_A1_47 _)
  refine lv_iconst (v := iI (-1)) hx hb dX12_comes_15 (by decide +kernel) ?_
  refine lv_icmp_eq (tgt := 20) hx hb dX12_comes_16 (by decide) (fun c8 => ?_) (fun c8 => ?_)
  · have c8 : z7 = (-1) := (i_eq (rb rz7 (by decide) (by decide)) ⟨by decide, by decide⟩).mp c8
    have hroom : A 0 66 < 76832 := QI.room hp0 (s := z4) (by omega) (by omega)
    refine lv_aload_n hx hb dX12_comes_20 rfl (lv_at hl 1 rfl) ?_
    refine va_get (D := (dC, dI)) (ci := 12) (v := .ref (q 47)) (C := RX12) (T := TX12) (N := 85) hx hb hts hiX12 hown hK hP 0 wm0 rfl 64 (by decide) (hts _ (List.mem_cons_of_mem _ (wl_in_6 _ (List.mem_of_getElem? (i := 51) rfl)))) (fun _ h9 => h9) rfl dX12_comes_21 ?_
    refine lv_iload_n hx hb dX12_comes_24 rfl (lv_at hl 0 rfl) ?_
    refine lv_iload_n hx hb dX12_comes_25 rfl (lv_at hl 2 rfl) ?_
    refine x_iast hx hb hK hP hDD hS 47 1 wm47 rfl (by omega) (by decide) dX12_comes_26 ws47 (fun H locs hP hS => ?_)
    have hI := hI.st (j := 47) (i := (z4).toNat) (v := x1) (show (-1 : Int) ≤ x1 ∧ x1 ≤ 76832 from (by omega))
    refine lv_aload_n hx hb dX12_comes_27 rfl (lv_at hl 1 rfl) ?_
    refine va_get (D := (dC, dI)) (ci := 12) (v := .ref (q 48)) (C := RX12) (T := TX12) (N := 85) hx hb hts hiX12 hown hK hP 0 wm0 rfl 65 (by decide) (hts _ (List.mem_cons_of_mem _ (wl_in_6 _ (List.mem_of_getElem? (i := 52) rfl)))) (fun _ h9 => h9) rfl dX12_comes_28 ?_
    refine lv_aload_n hx hb dX12_comes_31 rfl (lv_at hl 1 rfl) ?_
    have e_A1_66 : A1 0 66 = (A 0 66) := (hf3.2 66 rfl)
    refine va_get (D := (dC, dI)) (ci := 12) (v := .int (iI (A1 0 66))) (C := RX12) (T := TX12) (N := 85) hx hb hts hiX12 hown hK hP 0 wm0 rfl 66 (by decide) (hts _ (List.mem_cons_of_mem _ (wl_in_6 _ (List.mem_of_getElem? (i := 53) rfl)))) (fun _ h9 => h9) rfl dX12_comes_32 ?_
    refine tp_i (y := iI (A 0 66)) (congrArg iI e_A1_66) ?_
    have r_A_0_66 : (0 : Int) ≤ (A 0 66) ∧ (A 0 66) ≤ 76832 := by rw [← e_A1_66]; exact hI 0 66
    refine lv_iload_n hx hb dX12_comes_35 rfl (lv_at hl 0 rfl) ?_
    refine x_iast hx hb hK hP hDD hS 48 1 wm48 rfl (by omega) (by decide) dX12_comes_36 ws48 (fun H locs hP hS => ?_)
    have hI := hI.st (j := 48) (i := ((A 0 66)).toNat) (v := z4) (show (0 : Int) ≤ z4 ∧ z4 ≤ 76831 from (by omega))
    refine lv_aload_n hx hb dX12_comes_37 rfl (lv_at hl 1 rfl) ?_
    refine lv_dup hx hb dX12_comes_38 rfl ?_
    refine va_get (D := (dC, dI)) (ci := 12) (v := .int (iI (A1 0 66))) (C := RX12) (T := TX12) (N := 85) hx hb hts hiX12 hown hK hP 0 wm0 rfl 66 (by decide) (hts _ (List.mem_cons_of_mem _ (wl_in_6 _ (List.mem_of_getElem? (i := 53) rfl)))) (fun _ h9 => h9) rfl dX12_comes_39 ?_
    refine tp_i (y := iI (A 0 66)) (congrArg iI e_A1_66) ?_
    refine lv_iconst (v := iI 1) hx hb dX12_comes_42 (by decide +kernel) ?_
    refine x_addv (v := (A 0 66) + 1) hx hb dX12_comes_43 (by omega) ?_
    refine x_put (D := (dC, dI)) (ci := 12) (v := .int (iI ((A 0 66) + 1))) (ty := .int) (C := RX12) (T := TX12) (N := 85) hx hb hts hiX12 tyX12 tyX12_ok nmX12 hown hK hP hDD hS 0 wm0 rfl 66 (by decide) (hts _ (List.mem_cons_of_mem _ (wl_in_6 _ (List.mem_of_getElem? (i := 53) rfl)))) (fun _ h9 => h9) rfl (by decide +kernel) rfl rfl (Nat.le_of_ble_eq_true rfl) dX12_comes_44 (wf66 (v := (A 0 66) + 1)) (fun H locs hP hS => ?_)
    have hI := hI.st (j := 0) (i := 66) (v := (A 0 66) + 1) (show (0 : Int) ≤ (A 0 66) + 1 ∧ (A 0 66) + 1 ≤ 76832 from (by omega))
    obtain ⟨A9, hA9⟩ : ∃ A9 : St, A9 = (stA (stA (stA A1 47 (z4).toNat x1) 48 ((A 0 66)).toNat z4) 0 66 ((A 0 66) + 1)) := ⟨_, rfl⟩
    rw [← hA9] at hP hI
    have e_A9_66 : A9 0 66 = (A 0 66) + 1 := by rw [hA9]; rfl
    exact RET _ _ _ _ _ ⟨(u_r_X12_comes ⟨A1, ghw2, ⟨z4, ghw6, ⟨z7, gz7.out, (Or.inl ⟨c8, ⟨A9, hA9, rfl⟩⟩)⟩⟩⟩), hI, fr_def hA9 (fr.sf (fr.st (fr.st (fr.trans (fr.rf) hf3 rfl rfl) (by decide) rfl) (by decide) rfl) rfl), ⟨by rw [hA9]; exact QI.push (QI.fr (M := []) (N := [69]) hp0 (fr.trans (fr.rf) hf3 rfl rfl) rfl rfl rfl) e_A1_66 (by omega) (by rw [a_A1_47]; omega) (by omega), by omega⟩⟩ hP hS dX12_comes_47
  · have c8 : ¬ z7 = (-1) := mt (i_eq (rb rz7 (by decide) (by decide)) ⟨by decide, by decide⟩).mpr c8
    have e_A1_66 : A1 0 66 = (A 0 66) := (hf3.2 66 rfl)
    have r_A_0_66 : (0 : Int) ≤ (A 0 66) ∧ (A 0 66) ≤ 76832 := by rw [← e_A1_66]; exact hI 0 66
    exact RET _ _ _ _ _ ⟨(u_r_X12_comes ⟨A1, ghw2, ⟨z4, ghw6, ⟨z7, gz7.out, (Or.inr ⟨c8, rfl⟩)⟩⟩⟩), hI, fr.trans (fr.rf) hf3 rfl rfl, ⟨QI.fr (M := []) (N := [69]) hp0 (fr.trans (fr.rf) hf3 rfl rfl) rfl rfl rfl, by omega⟩⟩ hP hS dX12_comes_19
