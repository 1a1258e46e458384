def ws_mb_X12_rank : List Cond := .code yX12_rank cX12_rank 1 (some .int) :: WX
set_option maxHeartbeats 4000000 in
set_option maxRecDepth 100000 in
theorem mb_X12_rank (l : Launch) (dC : Nat → ClassId) (dI : Nat → Nat → Nat) (cB cI cJ cZ cQ : ClassId) (q : Nat → Nat) (A : St) (x1 : Int) (hI : IM A) (hx1 : (-2147483648 : Int) ≤ x1 ∧ x1 ≤ 2147483647) : XMi l yX12_rank ws_mb_X12_rank ({ frames := 0, cells := 0, slots := 0, locals := 0 } : Room) (dC, dI) (tyA cB cI cJ cZ cQ) (WM cI cJ cZ q) A [.int (iI x1)] (fun z u => A = u ∧ (1 ≤ z ∧ z ≤ 6 ∧ z = rk x1)) := by
  refine x_meti (cc := cX12_rank) (maxL := 1) WM_adr (by decide +kernel) rfl (Nat.le_of_ble_eq_true rfl) (fun p e s m below meth c Q AS ls hx hb hml hown hts hK hDD hA0 hP hS hl RET => ?_)
  have hown : s.vm.findClass RX12 = some m.cls := hown
  have hl : lv_has ls 1 [(0, .int (iI x1))] := hl
  obtain ⟨H, hHe⟩ : ∃ H : Heap, H = s.heap := ⟨_, rfl⟩
  rw [← hHe] at hP
  have hS : va_S AS s.heap H [] := by rw [hHe]; exact hS
  suffices hgo : ∀ locs : List Loc, va_S AS s.heap H locs → W p l e (headSpec ws_mb_X12_rank ({ frames := 0, cells := 0, slots := 0, locals := 0 } : Room)).room s m [.int (iI x1)].toArray below meth c H locs 0 0 Q (F0 m 0 ls []) by
    have := hgo [] hS
    rw [hHe] at this
    exact this
  clear hS hHe
  intro locs hS
  refine lv_iload_n hx hb dX12_rank_0 rfl (lv_at hl 0 rfl) ?_
  refine lv_bipush (v := iI 21) hx hb dX12_rank_1 (by decide +kernel) ?_
  refine lv_icmp_ne (tgt := 10) hx hb dX12_rank_3 (by decide) (fun c1 => ?_) (fun c1 => ?_)
  · have c1 : ¬ x1 = 21 := mt (i_eq hx1 ⟨by decide, by decide⟩).mpr c1
    refine lv_iload_n hx hb dX12_rank_10 rfl (lv_at hl 0 rfl) ?_
    refine lv_bipush (v := iI 20) hx hb dX12_rank_11 (by decide +kernel) ?_
    refine lv_icmp_ne (tgt := 20) hx hb dX12_rank_13 (by decide) (fun c2 => ?_) (fun c2 => ?_)
    · have c2 : ¬ x1 = 20 := mt (i_eq hx1 ⟨by decide, by decide⟩).mpr c2
      refine lv_iload_n hx hb dX12_rank_20 rfl (lv_at hl 0 rfl) ?_
      refine lv_bipush (v := iI 22) hx hb dX12_rank_21 (by decide +kernel) ?_
      refine lv_icmp_ne (tgt := 30) hx hb dX12_rank_23 (by decide) (fun c3 => ?_) (fun c3 => ?_)
      · have c3 : ¬ x1 = 22 := mt (i_eq hx1 ⟨by decide, by decide⟩).mpr c3
        refine lv_iload_n hx hb dX12_rank_30 rfl (lv_at hl 0 rfl) ?_
        refine lv_bipush (v := iI 17) hx hb dX12_rank_31 (by decide +kernel) ?_
        refine lv_icmp_eq (tgt := 48) hx hb dX12_rank_33 (by decide) (fun c4 => ?_) (fun c4 => ?_)
        · have c4 : x1 = 17 := (i_eq hx1 ⟨by decide, by decide⟩).mp c4
          refine lv_iconst (v := iI 4) hx hb dX12_rank_48 (by decide +kernel) ?_
          refine lv_goto (tgt := 70) hx hb dX12_rank_49 (by decide) ?_
          exact RET 4 _ _ _ _ _ ⟨rfl, ⟨by decide, by decide, (by unfold rk; (repeat' split) <;> omega)⟩⟩ hP hS dX12_rank_70
        · have c4 : ¬ x1 = 17 := mt (i_eq hx1 ⟨by decide, by decide⟩).mpr c4
          refine lv_iload_n hx hb dX12_rank_36 rfl (lv_at hl 0 rfl) ?_
          refine lv_bipush (v := iI 18) hx hb dX12_rank_37 (by decide +kernel) ?_
          refine lv_icmp_eq (tgt := 48) hx hb dX12_rank_39 (by decide) (fun c5 => ?_) (fun c5 => ?_)
          · have c5 : x1 = 18 := (i_eq hx1 ⟨by decide, by decide⟩).mp c5
            refine lv_iconst (v := iI 4) hx hb dX12_rank_48 (by decide +kernel) ?_
            refine lv_goto (tgt := 70) hx hb dX12_rank_49 (by decide) ?_
            exact RET 4 _ _ _ _ _ ⟨rfl, ⟨by decide, by decide, (by unfold rk; (repeat' split) <;> omega)⟩⟩ hP hS dX12_rank_70
          · have c5 : ¬ x1 = 18 := mt (i_eq hx1 ⟨by decide, by decide⟩).mpr c5
            refine lv_iload_n hx hb dX12_rank_42 rfl (lv_at hl 0 rfl) ?_
            refine lv_bipush (v := iI 19) hx hb dX12_rank_43 (by decide +kernel) ?_
            refine lv_icmp_ne (tgt := 52) hx hb dX12_rank_45 (by decide) (fun c6 => ?_) (fun c6 => ?_)
            · have c6 : ¬ x1 = 19 := mt (i_eq hx1 ⟨by decide, by decide⟩).mpr c6
              refine lv_iload_n hx hb dX12_rank_52 rfl (lv_at hl 0 rfl) ?_
              refine lv_bipush (v := iI 10) hx hb dX12_rank_53 (by decide +kernel) ?_
              refine lv_icmp_eq (tgt := 64) hx hb dX12_rank_55 (by decide) (fun c7 => ?_) (fun c7 => ?_)
              · have c7 : x1 = 10 := (i_eq hx1 ⟨by decide, by decide⟩).mp c7
                refine lv_iconst (v := iI 5) hx hb dX12_rank_64 (by decide +kernel) ?_
                refine lv_goto (tgt := 70) hx hb dX12_rank_65 (by decide) ?_
                exact RET 5 _ _ _ _ _ ⟨rfl, ⟨by decide, by decide, (by unfold rk; (repeat' split) <;> omega)⟩⟩ hP hS dX12_rank_70
              · have c7 : ¬ x1 = 10 := mt (i_eq hx1 ⟨by decide, by decide⟩).mpr c7
                refine lv_iload_n hx hb dX12_rank_58 rfl (lv_at hl 0 rfl) ?_
                refine lv_bipush (v := iI 11) hx hb dX12_rank_59 (by decide +kernel) ?_
                refine lv_icmp_ne (tgt := 68) hx hb dX12_rank_61 (by decide) (fun c8 => ?_) (fun c8 => ?_)
                · have c8 : ¬ x1 = 11 := mt (i_eq hx1 ⟨by decide, by decide⟩).mpr c8
                  refine lv_bipush (v := iI 6) hx hb dX12_rank_68 (by decide +kernel) ?_
                  exact RET 6 _ _ _ _ _ ⟨rfl, ⟨by decide, by decide, (by unfold rk; (repeat' split) <;> omega)⟩⟩ hP hS dX12_rank_70
                · have c8 : x1 = 11 := (i_eq hx1 ⟨by decide, by decide⟩).mp c8
                  refine lv_iconst (v := iI 5) hx hb dX12_rank_64 (by decide +kernel) ?_
                  refine lv_goto (tgt := 70) hx hb dX12_rank_65 (by decide) ?_
                  exact RET 5 _ _ _ _ _ ⟨rfl, ⟨by decide, by decide, (by unfold rk; (repeat' split) <;> omega)⟩⟩ hP hS dX12_rank_70
            · have c6 : x1 = 19 := (i_eq hx1 ⟨by decide, by decide⟩).mp c6
              refine lv_iconst (v := iI 4) hx hb dX12_rank_48 (by decide +kernel) ?_
              refine lv_goto (tgt := 70) hx hb dX12_rank_49 (by decide) ?_
              exact RET 4 _ _ _ _ _ ⟨rfl, ⟨by decide, by decide, (by unfold rk; (repeat' split) <;> omega)⟩⟩ hP hS dX12_rank_70
      · have c3 : x1 = 22 := (i_eq hx1 ⟨by decide, by decide⟩).mp c3
        refine lv_iconst (v := iI 3) hx hb dX12_rank_26 (by decide +kernel) ?_
        refine lv_goto (tgt := 70) hx hb dX12_rank_27 (by decide) ?_
        exact RET 3 _ _ _ _ _ ⟨rfl, ⟨by decide, by decide, (by unfold rk; (repeat' split) <;> omega)⟩⟩ hP hS dX12_rank_70
    · have c2 : x1 = 20 := (i_eq hx1 ⟨by decide, by decide⟩).mp c2
      refine lv_iconst (v := iI 2) hx hb dX12_rank_16 (by decide +kernel) ?_
      refine lv_goto (tgt := 70) hx hb dX12_rank_17 (by decide) ?_
      exact RET 2 _ _ _ _ _ ⟨rfl, ⟨by decide, by decide, (by unfold rk; (repeat' split) <;> omega)⟩⟩ hP hS dX12_rank_70
  · have c1 : x1 = 21 := (i_eq hx1 ⟨by decide, by decide⟩).mp c1
    refine lv_iconst (v := iI 1) hx hb dX12_rank_6 (by decide +kernel) ?_
    refine lv_goto (tgt := 70) hx hb dX12_rank_7 (by decide) ?_
    exact RET 1 _ _ _ _ _ ⟨rfl, ⟨by decide, by decide, (by unfold rk; (repeat' split) <;> omega)⟩⟩ hP hS dX12_rank_70

def ws_mb_X12_add : List Cond := .code yX12_add cX12_add 3 none :: WX
set_option maxHeartbeats 4000000 in
set_option maxRecDepth 100000 in
theorem mb_X12_add (l : Launch) (dC : Nat → ClassId) (dI : Nat → Nat → Nat) (cB cI cJ cZ cQ : ClassId) (q : Nat → Nat) (A : St) (x1 x2 : Int) (hI : IM A) (hx1 : (0 : Int) ≤ x1 ∧ x1 ≤ 22) (hx2 : (-2147483648 : Int) ≤ x2 ∧ x2 ≤ 2147483647) (hp0 : A 0 46 < 1600) (hcCI : CI A) : XMv l yX12_add ws_mb_X12_add ({ frames := 0, cells := 0, slots := 0, locals := 0 } : Room) (dC, dI) (tyA cB cI cJ cZ cQ) (WM cI cJ cZ q) A [.ref (q 0), .int (iI x1), .int (iI x2)] (fun u => IM u ∧ fr [33, 34] [46] A u ∧ CI u ∧ (u 0 46 = A 0 46 + 1 ∧ u 33 = up (A 33) (1600 * A 0 47 + A 0 46).toNat x1)) := by
  refine x_metv (cc := cX12_add) (maxL := 3) WM_adr (by decide +kernel) rfl (Nat.le_of_ble_eq_true rfl) (fun p e s m below meth c Q AS ls hx hb hml hown hts hK hDD hA0 hP hS hl RET => ?_)
  have hown : s.vm.findClass RX12 = some m.cls := hown
  have hl : lv_has ls 3 [(0, .ref (q 0)), (1, .int (iI x1)), (2, .int (iI x2))] := hl
  have hiX12 : ∀ w ∈ u_ws RX12 TX12 85, w ∈ ws_mb_X12_add := fun w h => List.mem_cons_of_mem _ (wx_lay w h)
  obtain ⟨H, hHe⟩ : ∃ H : Heap, H = s.heap := ⟨_, rfl⟩
  rw [← hHe] at hP
  have hS : va_S AS s.heap H [] := by rw [hHe]; exact hS
  suffices hgo : ∀ locs : List Loc, va_S AS s.heap H locs → W p l e (headSpec ws_mb_X12_add ({ frames := 0, cells := 0, slots := 0, locals := 0 } : Room)).room s m [.ref (q 0), .int (iI x1), .int (iI x2)].toArray below meth c H locs 0 0 Q (F0 m 0 ls []) by
    have := hgo [] hS
    rw [hHe] at this
    exact this
  clear hS hHe
  intro locs hS
  have hI0 := hI
  refine lv_aload_n hx hb dX12_add_0 rfl (lv_at hl 0 rfl) ?_
  refine va_get (D := (dC, dI)) (ci := 12) (v := .ref (q 33)) (C := RX12) (T := TX12) (N := 85) hx hb hts hiX12 hown hK hP 0 wm0 rfl 44 (by decide) (hts _ (List.mem_cons_of_mem _ (wl_in_1 _ (List.mem_of_getElem? (i := 30) rfl)))) (fun _ h9 => h9) rfl dX12_add_1 ?_
  refine lv_sipush (v := iI 1600) hx hb dX12_add_4 (by decide +kernel) ?_
  refine lv_aload_n hx hb dX12_add_7 rfl (lv_at hl 0 rfl) ?_
  refine va_get (D := (dC, dI)) (ci := 12) (v := .int (iI (A 0 47))) (C := RX12) (T := TX12) (N := 85) hx hb hts hiX12 hown hK hP 0 wm0 rfl 47 (by decide) (hts _ (List.mem_cons_of_mem _ (wl_in_1 _ (List.mem_of_getElem? (i := 12) rfl)))) (fun _ h9 => h9) rfl dX12_add_8 ?_
  have r_A_0_47 : (0 : Int) ≤ (A 0 47) ∧ (A 0 47) ≤ 1 := hI 0 47
  refine x_mulv (v := 1600 * (A 0 47)) hx hb dX12_add_11 (by omega) ?_
  refine lv_aload_n hx hb dX12_add_12 rfl (lv_at hl 0 rfl) ?_
  refine va_get (D := (dC, dI)) (ci := 12) (v := .int (iI (A 0 46))) (C := RX12) (T := TX12) (N := 85) hx hb hts hiX12 hown hK hP 0 wm0 rfl 46 (by decide) (hts _ (List.mem_cons_of_mem _ (wl_in_1 _ (List.mem_of_getElem? (i := 31) rfl)))) (fun _ h9 => h9) rfl dX12_add_13 ?_
  have r_A_0_46 : (0 : Int) ≤ (A 0 46) ∧ (A 0 46) ≤ 1600 := hI 0 46
  refine x_addv (v := 1600 * (A 0 47) + (A 0 46)) hx hb dX12_add_16 (by omega) ?_
  refine lv_iload_n hx hb dX12_add_17 rfl (lv_at hl 1 rfl) ?_
  refine x_iast hx hb hK hP hDD hS 33 1 wm33 rfl (by omega) (by decide) dX12_add_18 ws33 (fun H locs hP hS => ?_)
  have hI := hI.st (j := 33) (i := (1600 * (A 0 47) + (A 0 46)).toNat) (v := x1) (show (0 : Int) ≤ x1 ∧ x1 ≤ 22 from (by omega))
  refine lv_aload_n hx hb dX12_add_19 rfl (lv_at hl 0 rfl) ?_
  refine va_get (D := (dC, dI)) (ci := 12) (v := .ref (q 34)) (C := RX12) (T := TX12) (N := 85) hx hb hts hiX12 hown hK hP 0 wm0 rfl 45 (by decide) (hts _ (List.mem_cons_of_mem _ (wl_in_1 _ (List.mem_of_getElem? (i := 32) rfl)))) (fun _ h9 => h9) rfl dX12_add_20 ?_
  refine lv_sipush (v := iI 1600) hx hb dX12_add_23 (by decide +kernel) ?_
  refine lv_aload_n hx hb dX12_add_26 rfl (lv_at hl 0 rfl) ?_
  refine va_get (D := (dC, dI)) (ci := 12) (v := .int (iI (A 0 47))) (C := RX12) (T := TX12) (N := 85) hx hb hts hiX12 hown hK hP 0 wm0 rfl 47 (by decide) (hts _ (List.mem_cons_of_mem _ (wl_in_1 _ (List.mem_of_getElem? (i := 12) rfl)))) (fun _ h9 => h9) rfl dX12_add_27 ?_
  refine x_mulv (v := 1600 * (A 0 47)) hx hb dX12_add_30 (by omega) ?_
  refine lv_aload_n hx hb dX12_add_31 rfl (lv_at hl 0 rfl) ?_
  refine va_get (D := (dC, dI)) (ci := 12) (v := .int (iI (A 0 46))) (C := RX12) (T := TX12) (N := 85) hx hb hts hiX12 hown hK hP 0 wm0 rfl 46 (by decide) (hts _ (List.mem_cons_of_mem _ (wl_in_1 _ (List.mem_of_getElem? (i := 31) rfl)))) (fun _ h9 => h9) rfl dX12_add_32 ?_
  refine x_addv (v := 1600 * (A 0 47) + (A 0 46)) hx hb dX12_add_35 (by omega) ?_
  refine lv_iload_n hx hb dX12_add_36 rfl (lv_at hl 2 rfl) ?_
  refine x_iast hx hb hK hP hDD hS 34 1 wm34 rfl (by omega) (by decide) dX12_add_37 ws34 (fun H locs hP hS => ?_)
  have hI := hI.st (j := 34) (i := (1600 * (A 0 47) + (A 0 46)).toNat) (v := x2) (show (-2147483648 : Int) ≤ x2 ∧ x2 ≤ 2147483647 from (by omega))
  refine lv_aload_n hx hb dX12_add_38 rfl (lv_at hl 0 rfl) ?_
  refine lv_dup hx hb dX12_add_39 rfl ?_
  refine va_get (D := (dC, dI)) (ci := 12) (v := .int (iI (A 0 46))) (C := RX12) (T := TX12) (N := 85) hx hb hts hiX12 hown hK hP 0 wm0 rfl 46 (by decide) (hts _ (List.mem_cons_of_mem _ (wl_in_1 _ (List.mem_of_getElem? (i := 31) rfl)))) (fun _ h9 => h9) rfl dX12_add_40 ?_
  refine lv_iconst (v := iI 1) hx hb dX12_add_43 (by decide +kernel) ?_
  refine x_addv (v := (A 0 46) + 1) hx hb dX12_add_44 (by omega) ?_
  refine x_put (D := (dC, dI)) (ci := 12) (v := .int (iI ((A 0 46) + 1))) (ty := .int) (C := RX12) (T := TX12) (N := 85) hx hb hts hiX12 tyX12 tyX12_ok nmX12 hown hK hP hDD hS 0 wm0 rfl 46 (by decide) (hts _ (List.mem_cons_of_mem _ (wl_in_1 _ (List.mem_of_getElem? (i := 31) rfl)))) (fun _ h9 => h9) rfl (by decide +kernel) rfl rfl (Nat.le_of_ble_eq_true rfl) dX12_add_45 (wf46 (v := (A 0 46) + 1)) (fun H locs hP hS => ?_)
  have hI := hI.st (j := 0) (i := 46) (v := (A 0 46) + 1) (show (0 : Int) ≤ (A 0 46) + 1 ∧ (A 0 46) + 1 ≤ 1600 from (by omega))
  obtain ⟨A1, hA1⟩ : ∃ A1 : St, A1 = (stA (stA (stA A 33 (1600 * (A 0 47) + (A 0 46)).toNat x1) 34 (1600 * (A 0 47) + (A 0 46)).toNat x2) 0 46 ((A 0 46) + 1)) := ⟨_, rfl⟩
  rw [← hA1] at hP hI
  have e_A1_46 : A1 0 46 = (A 0 46) + 1 := by rw [hA1]; rfl
  exact RET _ _ _ _ _ ⟨hI, fr_def hA1 (fr.sf (fr.st (fr.st (fr.rf) (by decide) rfl) (by decide) rfl) rfl), (CI.add hcCI hI0 (by rw [hA1]; rfl) (by rw [hA1]; rfl) (by rw [hA1]; rfl) (x := x1) (by rw [hA1]; rfl) (by rw [hA1]; rfl) (by rw [hA1]; rfl) hp0), ⟨by omega, by rw [hA1]; rfl⟩⟩ hP hS dX12_add_48

def ws_mb_X12_holdsBack : List Cond := .code yX12_holdsBack cX12_holdsBack 2 none :: WX
set_option maxHeartbeats 4000000 in
set_option maxRecDepth 100000 in
theorem mb_X12_holdsBack (l : Launch) (dC : Nat → ClassId) (dI : Nat → Nat → Nat) (cB cI cJ cZ cQ : ClassId) (q : Nat → Nat) (A : St) (x1 : Int) (hI : IM A) (hx1 : (0 : Int) ≤ x1 ∧ x1 ≤ 22) (hp0 : A 0 56 < 500) : XMv l yX12_holdsBack ws_mb_X12_holdsBack ({ frames := 0, cells := 0, slots := 0, locals := 0 } : Room) (dC, dI) (tyA cB cI cJ cZ cQ) (WM cI cJ cZ q) A [.ref (q 0), .int (iI x1)] (fun u => IM u ∧ fr [40] [56] A u ∧ (u 0 56 = A 0 56 + 1 ∧ u 40 = up (A 40) (A 0 56).toNat x1)) := by
  refine x_metv (cc := cX12_holdsBack) (maxL := 2) WM_adr (by decide +kernel) rfl (Nat.le_of_ble_eq_true rfl) (fun p e s m below meth c Q AS ls hx hb hml hown hts hK hDD hA0 hP hS hl RET => ?_)
  have hown : s.vm.findClass RX12 = some m.cls := hown
  have hl : lv_has ls 2 [(0, .ref (q 0)), (1, .int (iI x1))] := hl
  have hiX12 : ∀ w ∈ u_ws RX12 TX12 85, w ∈ ws_mb_X12_holdsBack := fun w h => List.mem_cons_of_mem _ (wx_lay w h)
  obtain ⟨H, hHe⟩ : ∃ H : Heap, H = s.heap := ⟨_, rfl⟩
  rw [← hHe] at hP
  have hS : va_S AS s.heap H [] := by rw [hHe]; exact hS
  suffices hgo : ∀ locs : List Loc, va_S AS s.heap H locs → W p l e (headSpec ws_mb_X12_holdsBack ({ frames := 0, cells := 0, slots := 0, locals := 0 } : Room)).room s m [.ref (q 0), .int (iI x1)].toArray below meth c H locs 0 0 Q (F0 m 0 ls []) by
    have := hgo [] hS
    rw [hHe] at this
    exact this
  clear hS hHe
  intro locs hS
  refine lv_aload_n hx hb dX12_holdsBack_0 rfl (lv_at hl 0 rfl) ?_
  refine va_get (D := (dC, dI)) (ci := 12) (v := .ref (q 40)) (C := RX12) (T := TX12) (N := 85) hx hb hts hiX12 hown hK hP 0 wm0 rfl 55 (by decide) (hts _ (List.mem_cons_of_mem _ (wl_in_1 _ (List.mem_of_getElem? (i := 38) rfl)))) (fun _ h9 => h9) rfl dX12_holdsBack_1 ?_
  refine lv_aload_n hx hb dX12_holdsBack_4 rfl (lv_at hl 0 rfl) ?_
  refine va_get (D := (dC, dI)) (ci := 12) (v := .int (iI (A 0 56))) (C := RX12) (T := TX12) (N := 85) hx hb hts hiX12 hown hK hP 0 wm0 rfl 56 (by decide) (hts _ (List.mem_cons_of_mem _ (wl_in_1 _ (List.mem_of_getElem? (i := 35) rfl)))) (fun _ h9 => h9) rfl dX12_holdsBack_5 ?_
  have r_A_0_56 : (0 : Int) ≤ (A 0 56) ∧ (A 0 56) ≤ 500 := hI 0 56
  refine lv_iload_n hx hb dX12_holdsBack_8 rfl (lv_at hl 1 rfl) ?_
  refine x_iast hx hb hK hP hDD hS 40 1 wm40 rfl (by omega) (by decide) dX12_holdsBack_9 ws40 (fun H locs hP hS => ?_)
  have hI := hI.st (j := 40) (i := ((A 0 56)).toNat) (v := x1) (show (0 : Int) ≤ x1 ∧ x1 ≤ 22 from (by omega))
  refine lv_aload_n hx hb dX12_holdsBack_10 rfl (lv_at hl 0 rfl) ?_
  refine lv_dup hx hb dX12_holdsBack_11 rfl ?_
  refine va_get (D := (dC, dI)) (ci := 12) (v := .int (iI (A 0 56))) (C := RX12) (T := TX12) (N := 85) hx hb hts hiX12 hown hK hP 0 wm0 rfl 56 (by decide) (hts _ (List.mem_cons_of_mem _ (wl_in_1 _ (List.mem_of_getElem? (i := 35) rfl)))) (fun _ h9 => h9) rfl dX12_holdsBack_12 ?_
  refine lv_iconst (v := iI 1) hx hb dX12_holdsBack_15 (by decide +kernel) ?_
  refine x_addv (v := (A 0 56) + 1) hx hb dX12_holdsBack_16 (by omega) ?_
  refine x_put (D := (dC, dI)) (ci := 12) (v := .int (iI ((A 0 56) + 1))) (ty := .int) (C := RX12) (T := TX12) (N := 85) hx hb hts hiX12 tyX12 tyX12_ok nmX12 hown hK hP hDD hS 0 wm0 rfl 56 (by decide) (hts _ (List.mem_cons_of_mem _ (wl_in_1 _ (List.mem_of_getElem? (i := 35) rfl)))) (fun _ h9 => h9) rfl (by decide +kernel) rfl rfl (Nat.le_of_ble_eq_true rfl) dX12_holdsBack_17 (wf56 (v := (A 0 56) + 1)) (fun H locs hP hS => ?_)
  have hI := hI.st (j := 0) (i := 56) (v := (A 0 56) + 1) (show (0 : Int) ≤ (A 0 56) + 1 ∧ (A 0 56) + 1 ≤ 500 from (by omega))
  obtain ⟨A1, hA1⟩ : ∃ A1 : St, A1 = (stA (stA A 40 ((A 0 56)).toNat x1) 0 56 ((A 0 56) + 1)) := ⟨_, rfl⟩
  rw [← hA1] at hP hI
  have e_A1_56 : A1 0 56 = (A 0 56) + 1 := by rw [hA1]; rfl
  exact RET _ _ _ _ _ ⟨hI, fr_def hA1 (fr.sf (fr.st (fr.rf) (by decide) rfl) rfl), ⟨by omega, by rw [hA1]; rfl⟩⟩ hP hS dX12_holdsBack_20

def ws_mb_X12_pushes : List Cond := .code yX12_pushes cX12_pushes 2 none :: WX
set_option maxHeartbeats 4000000 in
set_option maxRecDepth 100000 in
theorem mb_X12_pushes (l : Launch) (dC : Nat → ClassId) (dI : Nat → Nat → Nat) (cB cI cJ cZ cQ : ClassId) (q : Nat → Nat) (A : St) (x1 : Int) (hI : IM A) (hx1 : (0 : Int) ≤ x1 ∧ x1 ≤ 5) (hp0 : A 0 53 < 20) : XMv l yX12_pushes ws_mb_X12_pushes ({ frames := 0, cells := 0, slots := 0, locals := 0 } : Room) (dC, dI) (tyA cB cI cJ cZ cQ) (WM cI cJ cZ q) A [.ref (q 0), .int (iI x1)] (fun u => IM u ∧ fr [35, 36, 37, 39] [53] A u ∧ (u 0 53 = A 0 53 + 1 ∧ u 35 = up (A 35) (A 0 53).toNat x1 ∧ u 37 = up (A 37) (A 0 53).toNat 1 ∧ u 39 = up (A 39) (A 0 53).toNat (A 0 56) ∧ u 36 = up (A 36) (A 0 53).toNat 0)) := by
  refine x_metv (cc := cX12_pushes) (maxL := 2) WM_adr (by decide +kernel) rfl (Nat.le_of_ble_eq_true rfl) (fun p e s m below meth c Q AS ls hx hb hml hown hts hK hDD hA0 hP hS hl RET => ?_)
  have hown : s.vm.findClass RX12 = some m.cls := hown
  have hl : lv_has ls 2 [(0, .ref (q 0)), (1, .int (iI x1))] := hl
  have hiX12 : ∀ w ∈ u_ws RX12 TX12 85, w ∈ ws_mb_X12_pushes := fun w h => List.mem_cons_of_mem _ (wx_lay w h)
  obtain ⟨H, hHe⟩ : ∃ H : Heap, H = s.heap := ⟨_, rfl⟩
  rw [← hHe] at hP
  have hS : va_S AS s.heap H [] := by rw [hHe]; exact hS
  suffices hgo : ∀ locs : List Loc, va_S AS s.heap H locs → W p l e (headSpec ws_mb_X12_pushes ({ frames := 0, cells := 0, slots := 0, locals := 0 } : Room)).room s m [.ref (q 0), .int (iI x1)].toArray below meth c H locs 0 0 Q (F0 m 0 ls []) by
    have := hgo [] hS
    rw [hHe] at this
    exact this
  clear hS hHe
  intro locs hS
  refine lv_aload_n hx hb dX12_pushes_0 rfl (lv_at hl 0 rfl) ?_
  refine va_get (D := (dC, dI)) (ci := 12) (v := .ref (q 35)) (C := RX12) (T := TX12) (N := 85) hx hb hts hiX12 hown hK hP 0 wm0 rfl 48 (by decide) (hts _ (List.mem_cons_of_mem _ (wl_in_1 _ (List.mem_of_getElem? (i := 46) rfl)))) (fun _ h9 => h9) rfl dX12_pushes_1 ?_
  refine lv_aload_n hx hb dX12_pushes_4 rfl (lv_at hl 0 rfl) ?_
  refine va_get (D := (dC, dI)) (ci := 12) (v := .int (iI (A 0 53))) (C := RX12) (T := TX12) (N := 85) hx hb hts hiX12 hown hK hP 0 wm0 rfl 53 (by decide) (hts _ (List.mem_cons_of_mem _ (wl_in_1 _ (List.mem_of_getElem? (i := 37) rfl)))) (fun _ h9 => h9) rfl dX12_pushes_5 ?_
  have r_A_0_53 : (0 : Int) ≤ (A 0 53) ∧ (A 0 53) ≤ 20 := hI 0 53
  refine lv_iload_n hx hb dX12_pushes_8 rfl (lv_at hl 1 rfl) ?_
  refine x_iast hx hb hK hP hDD hS 35 1 wm35 rfl (by omega) (by decide) dX12_pushes_9 ws35 (fun H locs hP hS => ?_)
  have hI := hI.st (j := 35) (i := ((A 0 53)).toNat) (v := x1) (show (0 : Int) ≤ x1 ∧ x1 ≤ 5 from (by omega))
  refine lv_aload_n hx hb dX12_pushes_10 rfl (lv_at hl 0 rfl) ?_
  refine va_get (D := (dC, dI)) (ci := 12) (v := .ref (q 36)) (C := RX12) (T := TX12) (N := 85) hx hb hts hiX12 hown hK hP 0 wm0 rfl 49 (by decide) (hts _ (List.mem_cons_of_mem _ (wl_in_1 _ (List.mem_of_getElem? (i := 47) rfl)))) (fun _ h9 => h9) rfl dX12_pushes_11 ?_
  refine lv_aload_n hx hb dX12_pushes_14 rfl (lv_at hl 0 rfl) ?_
  refine va_get (D := (dC, dI)) (ci := 12) (v := .int (iI (A 0 53))) (C := RX12) (T := TX12) (N := 85) hx hb hts hiX12 hown hK hP 0 wm0 rfl 53 (by decide) (hts _ (List.mem_cons_of_mem _ (wl_in_1 _ (List.mem_of_getElem? (i := 37) rfl)))) (fun _ h9 => h9) rfl dX12_pushes_15 ?_
  refine lv_iconst (v := iI 0) hx hb dX12_pushes_18 (by decide +kernel) ?_
  refine x_iast hx hb hK hP hDD hS 36 1 wm36 rfl (by omega) (by decide) dX12_pushes_19 ws36 (fun H locs hP hS => ?_)
  have hI := hI.st (j := 36) (i := ((A 0 53)).toNat) (v := 0) (show (0 : Int) ≤ 0 ∧ 0 ≤ 2 from (by omega))
  refine lv_aload_n hx hb dX12_pushes_20 rfl (lv_at hl 0 rfl) ?_
  refine va_get (D := (dC, dI)) (ci := 12) (v := .ref (q 37)) (C := RX12) (T := TX12) (N := 85) hx hb hts hiX12 hown hK hP 0 wm0 rfl 50 (by decide) (hts _ (List.mem_cons_of_mem _ (wl_in_1 _ (List.mem_of_getElem? (i := 48) rfl)))) (fun _ h9 => h9) rfl dX12_pushes_21 ?_
  refine lv_aload_n hx hb dX12_pushes_24 rfl (lv_at hl 0 rfl) ?_
  refine va_get (D := (dC, dI)) (ci := 12) (v := .int (iI (A 0 53))) (C := RX12) (T := TX12) (N := 85) hx hb hts hiX12 hown hK hP 0 wm0 rfl 53 (by decide) (hts _ (List.mem_cons_of_mem _ (wl_in_1 _ (List.mem_of_getElem? (i := 37) rfl)))) (fun _ h9 => h9) rfl dX12_pushes_25 ?_
  refine lv_iconst (v := iI 1) hx hb dX12_pushes_28 (by decide +kernel) ?_
  refine x_zast hx hb hK hP hDD hS 37 3 wm37 rfl (by omega) (by decide) dX12_pushes_29 (by omega) ws37 (fun H locs hP hS => ?_)
  have hI := hI.st (j := 37) (i := ((A 0 53)).toNat) (v := 1) (show (0 : Int) ≤ 1 ∧ 1 ≤ 1 from (by omega))
  refine lv_aload_n hx hb dX12_pushes_30 rfl (lv_at hl 0 rfl) ?_
  refine va_get (D := (dC, dI)) (ci := 12) (v := .ref (q 39)) (C := RX12) (T := TX12) (N := 85) hx hb hts hiX12 hown hK hP 0 wm0 rfl 52 (by decide) (hts _ (List.mem_cons_of_mem _ (wl_in_1 _ (List.mem_of_getElem? (i := 36) rfl)))) (fun _ h9 => h9) rfl dX12_pushes_31 ?_
  refine lv_aload_n hx hb dX12_pushes_34 rfl (lv_at hl 0 rfl) ?_
  refine va_get (D := (dC, dI)) (ci := 12) (v := .int (iI (A 0 53))) (C := RX12) (T := TX12) (N := 85) hx hb hts hiX12 hown hK hP 0 wm0 rfl 53 (by decide) (hts _ (List.mem_cons_of_mem _ (wl_in_1 _ (List.mem_of_getElem? (i := 37) rfl)))) (fun _ h9 => h9) rfl dX12_pushes_35 ?_
  refine lv_aload_n hx hb dX12_pushes_38 rfl (lv_at hl 0 rfl) ?_
  refine va_get (D := (dC, dI)) (ci := 12) (v := .int (iI (A 0 56))) (C := RX12) (T := TX12) (N := 85) hx hb hts hiX12 hown hK hP 0 wm0 rfl 56 (by decide) (hts _ (List.mem_cons_of_mem _ (wl_in_1 _ (List.mem_of_getElem? (i := 35) rfl)))) (fun _ h9 => h9) rfl dX12_pushes_39 ?_
  have r_A_0_56 : (0 : Int) ≤ (A 0 56) ∧ (A 0 56) ≤ 500 := hI 0 56
  refine x_iast hx hb hK hP hDD hS 39 1 wm39 rfl (by omega) (by decide) dX12_pushes_42 ws39 (fun H locs hP hS => ?_)
  have hI := hI.st (j := 39) (i := ((A 0 53)).toNat) (v := (A 0 56)) (show (0 : Int) ≤ (A 0 56) ∧ (A 0 56) ≤ 500 from (by omega))
  refine lv_aload_n hx hb dX12_pushes_43 rfl (lv_at hl 0 rfl) ?_
  refine lv_dup hx hb dX12_pushes_44 rfl ?_
  refine va_get (D := (dC, dI)) (ci := 12) (v := .int (iI (A 0 53))) (C := RX12) (T := TX12) (N := 85) hx hb hts hiX12 hown hK hP 0 wm0 rfl 53 (by decide) (hts _ (List.mem_cons_of_mem _ (wl_in_1 _ (List.mem_of_getElem? (i := 37) rfl)))) (fun _ h9 => h9) rfl dX12_pushes_45 ?_
  refine lv_iconst (v := iI 1) hx hb dX12_pushes_48 (by decide +kernel) ?_
  refine x_addv (v := (A 0 53) + 1) hx hb dX12_pushes_49 (by omega) ?_
  refine x_put (D := (dC, dI)) (ci := 12) (v := .int (iI ((A 0 53) + 1))) (ty := .int) (C := RX12) (T := TX12) (N := 85) hx hb hts hiX12 tyX12 tyX12_ok nmX12 hown hK hP hDD hS 0 wm0 rfl 53 (by decide) (hts _ (List.mem_cons_of_mem _ (wl_in_1 _ (List.mem_of_getElem? (i := 37) rfl)))) (fun _ h9 => h9) rfl (by decide +kernel) rfl rfl (Nat.le_of_ble_eq_true rfl) dX12_pushes_50 (wf53 (v := (A 0 53) + 1)) (fun H locs hP hS => ?_)
  have hI := hI.st (j := 0) (i := 53) (v := (A 0 53) + 1) (show (0 : Int) ≤ (A 0 53) + 1 ∧ (A 0 53) + 1 ≤ 20 from (by omega))
  obtain ⟨A1, hA1⟩ : ∃ A1 : St, A1 = (stA (stA (stA (stA (stA A 35 ((A 0 53)).toNat x1) 36 ((A 0 53)).toNat 0) 37 ((A 0 53)).toNat 1) 39 ((A 0 53)).toNat (A 0 56)) 0 53 ((A 0 53) + 1)) := ⟨_, rfl⟩
  rw [← hA1] at hP hI
  have e_A1_53 : A1 0 53 = (A 0 53) + 1 := by rw [hA1]; rfl
  exact RET _ _ _ _ _ ⟨hI, fr_def hA1 (fr.sf (fr.st (fr.st (fr.st (fr.st (fr.rf) (by decide) rfl) (by decide) rfl) (by decide) rfl) (by decide) rfl) rfl), ⟨by omega, by rw [hA1]; rfl, by rw [hA1]; rfl, by rw [hA1]; rfl, by rw [hA1]; rfl⟩⟩ hP hS dX12_pushes_53

def ws_mb_X12_joins : List Cond := .code yX12_joins cX12_joins 2 none :: WX
set_option maxHeartbeats 4000000 in
set_option maxRecDepth 100000 in
theorem mb_X12_joins (l : Launch) (dC : Nat → ClassId) (dI : Nat → Nat → Nat) (cB cI cJ cZ cQ : ClassId) (q : Nat → Nat) (A : St) (x1 : Int) (hI : IM A) (hx1 : (1 : Int) ≤ x1 ∧ x1 ≤ 6) (hp0 : RI 1 A) (hcCI : CI A) (hcSP : SP A) : XMv l yX12_joins ws_mb_X12_joins ({ frames := 1, cells := 0, slots := 0, locals := 22 } : Room) (dC, dI) (tyA cB cI cJ cZ cQ) (WM cI cJ cZ q) A [.ref (q 0), .int (iI x1)] (fun u => IM u ∧ fr [33, 34] [46, 56] A u ∧ CI u ∧ SP u ∧ (RI 1 u ∧ (u 0 56 = u 39 (u 0 53 - 1).toNat ∨ rk (u 40 (u 0 56 - 1).toNat) < x1))) := by
  refine x_metv (cc := cX12_joins) (maxL := 2) WM_adr (by decide +kernel) rfl (Nat.le_of_ble_eq_true rfl) (fun p e s m below meth c Q AS ls hx hb hml hown hts hK hDD hA0 hP hS hl RET => ?_)
  have hown : s.vm.findClass RX12 = some m.cls := hown
  have hl : lv_has ls 2 [(0, .ref (q 0)), (1, .int (iI x1))] := hl
  have hiX12 : ∀ w ∈ u_ws RX12 TX12 85, w ∈ ws_mb_X12_joins := fun w h => List.mem_cons_of_mem _ (wx_lay w h)
  obtain ⟨H, hHe⟩ : ∃ H : Heap, H = s.heap := ⟨_, rfl⟩
  rw [← hHe] at hP
  have hS : va_S AS s.heap H [] := by rw [hHe]; exact hS
  suffices hgo : ∀ locs : List Loc, va_S AS s.heap H locs → W p l e (headSpec ws_mb_X12_joins ({ frames := 1, cells := 0, slots := 0, locals := 22 } : Room)).room s m [.ref (q 0), .int (iI x1)].toArray below meth c H locs 0 0 Q (F0 m 0 ls []) by
    have := hgo [] hS
    rw [hHe] at this
    exact this
  clear hS hHe
  intro locs hS
  have r_A_0_56 : (0 : Int) ≤ (A 0 56) ∧ (A 0 56) ≤ 500 := hI 0 56
  have L0_3 : ∀ (n5 : Nat) (A2 : St) (H : Heap) (locs : List Loc) (ls : Array Slot), (Hd (RI 1 A2)) → (CI A2) → (SP A2) → ((A2 0 56).toNat = n5) → IM A2 → fr [33, 34] [46, 56] A A2 → va_P (dC, dI) vwCl (WM cI cJ cZ q A2) H → va_S AS s.heap H locs → lv_has ls 2 [(0, .ref (q 0)), (1, .int (iI x1))] → W p l e (headSpec ws_mb_X12_joins ({ frames := 1, cells := 0, slots := 0, locals := 22 } : Room)).room s m [.ref (q 0), .int (iI x1)].toArray below meth c H locs 0 0 Q (F0 m 0 ls []) := by
    intro n5
    induction n5 using Nat.strongRecOn with
    | ind n5 ih4 =>
      intro A2 H locs ls f6 hc7 hc8 hn5 hI hj1 hP hS hl
      have r_A2_0_56 : (0 : Int) ≤ (A2 0 56) ∧ (A2 0 56) ≤ 500 := hI 0 56
      have hIb := hI
      have hri := f6.out
      have hdp := RI.deep hri hIb
      have hrm := RI.room hri hIb
      have e_A2_3 : A2 0 3 = (A 0 3) := (hj1.2 3 rfl)
      have e_A2_4 : A2 0 4 = (A 0 4) := (hj1.2 4 rfl)
      have e_A2_5 : A2 0 5 = (A 0 5) := (hj1.2 5 rfl)
      have e_A2_7 : A2 0 7 = (A 0 7) := (hj1.2 7 rfl)
      have e_A2_8 : A2 0 8 = (A 0 8) := (hj1.2 8 rfl)
      have e_A2_47 : A2 0 47 = (A 0 47) := (hj1.2 47 rfl)
      have e_A2_53 : A2 0 53 = (A 0 53) := (hj1.2 53 rfl)
      have e_A2_54 : A2 0 54 = (A 0 54) := (hj1.2 54 rfl)
      have r_A_0_3 : (0 : Int) ≤ (A 0 3) ∧ (A 0 3) ≤ 3 := by rw [← e_A2_3]; exact hI 0 3
      have r_A_0_4 : (0 : Int) ≤ (A 0 4) ∧ (A 0 4) ≤ 1600 := by rw [← e_A2_4]; exact hI 0 4
      have r_A_0_5 : (0 : Int) ≤ (A 0 5) ∧ (A 0 5) ≤ 1600 := by rw [← e_A2_5]; exact hI 0 5
      have r_A_0_7 : (-9223372036854775808 : Int) ≤ (A 0 7) ∧ (A 0 7) ≤ 9223372036854775807 := by rw [← e_A2_7]; exact hI 0 7
      have r_A_0_8 : (0 : Int) ≤ (A 0 8) ∧ (A 0 8) ≤ 5 := by rw [← e_A2_8]; exact hI 0 8
      have r_A2_0_46 : (0 : Int) ≤ (A2 0 46) ∧ (A2 0 46) ≤ 1600 := hI 0 46
      have r_A_0_47 : (0 : Int) ≤ (A 0 47) ∧ (A 0 47) ≤ 1 := by rw [← e_A2_47]; exact hI 0 47
      have r_A_0_53 : (0 : Int) ≤ (A 0 53) ∧ (A 0 53) ≤ 20 := by rw [← e_A2_53]; exact hI 0 53
      have r_A_0_54 : (0 : Int) ≤ (A 0 54) ∧ (A 0 54) ≤ 8 := by rw [← e_A2_54]; exact hI 0 54
      refine lv_aload_n hx hb dX12_joins_0 rfl (lv_at hl 0 rfl) ?_
      refine va_get (D := (dC, dI)) (ci := 12) (v := .int (iI (A2 0 56))) (C := RX12) (T := TX12) (N := 85) hx hb hts hiX12 hown hK hP 0 wm0 rfl 56 (by decide) (hts _ (List.mem_cons_of_mem _ (wl_in_1 _ (List.mem_of_getElem? (i := 35) rfl)))) (fun _ h9 => h9) rfl dX12_joins_1 ?_
      refine lv_aload_n hx hb dX12_joins_4 rfl (lv_at hl 0 rfl) ?_
      refine va_get (D := (dC, dI)) (ci := 12) (v := .ref (q 39)) (C := RX12) (T := TX12) (N := 85) hx hb hts hiX12 hown hK hP 0 wm0 rfl 52 (by decide) (hts _ (List.mem_cons_of_mem _ (wl_in_1 _ (List.mem_of_getElem? (i := 36) rfl)))) (fun _ h9 => h9) rfl dX12_joins_5 ?_
      refine lv_aload_n hx hb dX12_joins_8 rfl (lv_at hl 0 rfl) ?_
      refine va_get (D := (dC, dI)) (ci := 12) (v := .int (iI (A2 0 53))) (C := RX12) (T := TX12) (N := 85) hx hb hts hiX12 hown hK hP 0 wm0 rfl 53 (by decide) (hts _ (List.mem_cons_of_mem _ (wl_in_1 _ (List.mem_of_getElem? (i := 37) rfl)))) (fun _ h9 => h9) rfl dX12_joins_9 ?_
      refine tp_i (y := iI (A 0 53)) (congrArg iI e_A2_53) ?_
      refine lv_iconst (v := iI 1) hx hb dX12_joins_12 (by decide +kernel) ?_
      refine x_subv (v := (A 0 53) - 1) hx hb dX12_joins_13 (by omega) ?_
      have a_A2_39 : A2 39 = A 39 := (hj1.1 39 (by decide) rfl)
      refine x_iald hx hb hK hP 39 1 wm39 rfl (by omega) (by decide) dX12_joins_14 (fun z9 hz9 => ?_)
      have rz9 : (0 : Int) ≤ z9 ∧ z9 ≤ 500 := by rw [hz9]; exact hI 39 _
      have hz9 : z9 = A 39 ((A 0 53) - 1).toNat := hz9.trans (congrFun a_A2_39 _)
      refine lv_icmp_le (tgt := 63) hx hb dX12_joins_15 (by decide) (fun c10 => ?_) (fun c10 => ?_)
      · have c10 : (A2 0 56) ≤ z9 := (i_le (rb r_A2_0_56 (by decide) (by decide)) (rb rz9 (by decide) (by decide))).mp c10
        have ca11 : A2 39 = A 39 := (hj1.1 39 (by decide) rfl)
        have ca12 : A2 40 = A 40 := (hj1.1 40 (by decide) rfl)
        have hbs := RI.base hri
        rw [ca11, show A2 0 53 - 1 = (A 0 53) - 1 by omega] at hbs
        exact RET _ _ _ _ _ ⟨hI, fr.trans (fr.rf) hj1 rfl rfl, hc7, hc8, ⟨hri, Or.inl (by rw [ca11, show A2 0 53 - 1 = (A 0 53) - 1 by omega]; omega)⟩⟩ hP hS dX12_joins_63
      · have c10 : ¬ (A2 0 56) ≤ z9 := mt (i_le (rb r_A2_0_56 (by decide) (by decide)) (rb rz9 (by decide) (by decide))).mpr c10
        refine lv_aload_n hx hb dX12_joins_18 rfl (lv_at hl 0 rfl) ?_
        refine va_get (D := (dC, dI)) (ci := 12) (v := .ref (q 40)) (C := RX12) (T := TX12) (N := 85) hx hb hts hiX12 hown hK hP 0 wm0 rfl 55 (by decide) (hts _ (List.mem_cons_of_mem _ (wl_in_1 _ (List.mem_of_getElem? (i := 38) rfl)))) (fun _ h9 => h9) rfl dX12_joins_19 ?_
        refine lv_aload_n hx hb dX12_joins_22 rfl (lv_at hl 0 rfl) ?_
        refine va_get (D := (dC, dI)) (ci := 12) (v := .int (iI (A2 0 56))) (C := RX12) (T := TX12) (N := 85) hx hb hts hiX12 hown hK hP 0 wm0 rfl 56 (by decide) (hts _ (List.mem_cons_of_mem _ (wl_in_1 _ (List.mem_of_getElem? (i := 35) rfl)))) (fun _ h9 => h9) rfl dX12_joins_23 ?_
        refine lv_iconst (v := iI 1) hx hb dX12_joins_26 (by decide +kernel) ?_
        refine x_subv (v := (A2 0 56) - 1) hx hb dX12_joins_27 (by omega) ?_
        have a_A2_40 : A2 40 = A 40 := (hj1.1 40 (by decide) rfl)
        refine x_iald hx hb hK hP 40 1 wm40 rfl (by omega) (by decide) dX12_joins_28 (fun z13 hz13 => ?_)
        have rz13 : (0 : Int) ≤ z13 ∧ z13 ≤ 22 := by rw [hz13]; exact hI 40 _
        have hz13 : z13 = A 40 ((A2 0 56) - 1).toNat := hz13.trans (congrFun a_A2_40 _)
        refine x_callSi (As := [.int (iI z13)]) (rest := []) ⟨hx, hb, hml, hown, hts⟩ (mb_X12_rank l dC dI cB cI cJ cZ cQ q _ z13 hI (rb rz13 (by decide) (by decide))) (va_cwS 1 hts (goodS (wl_in_1 _ (List.mem_of_getElem? (i := 39) rfl)) (wl_in_1 _ (List.mem_of_getElem? (i := 40) rfl)) (wl_in_0 _ (List.mem_of_getElem? (i := 8) rfl)) (wl_in_1 _ (List.mem_of_getElem? (i := 33) rfl))) rfl rfl rfl (by decide +kernel) ⟨Nat.le_of_ble_eq_true rfl, Nat.le_of_ble_eq_true rfl⟩) hK hDD hA0 hP hS rfl hl.1 (Nat.le_of_ble_eq_true rfl) dX12_joins_29 (fun z14 A15 H locs hw16 hP hS => ?_)
        obtain ⟨rfl, hw16⟩ := hw16
        refine lv_iload_n hx hb dX12_joins_32 rfl (lv_at hl 1 rfl) ?_
        refine lv_icmp_lt (tgt := 63) hx hb dX12_joins_33 (by decide) (fun c17 => ?_) (fun c17 => ?_)
        · have c17 : z14 < x1 := (i_lt (by omega) (rb hx1 (by decide) (by decide))).mp c17
          have ca18 : A2 39 = A 39 := (hj1.1 39 (by decide) rfl)
          have ca19 : A2 40 = A 40 := (hj1.1 40 (by decide) rfl)
          exact RET _ _ _ _ _ ⟨hI, fr.trans (fr.rf) hj1 rfl rfl, hc7, hc8, ⟨hri, Or.inr (by rw [ca19, ← hz13]; omega)⟩⟩ hP hS dX12_joins_63
        · have c17 : ¬ z14 < x1 := mt (i_lt (by omega) (rb hx1 (by decide) (by decide))).mpr c17
          refine lv_aload_n hx hb dX12_joins_36 rfl (lv_at hl 0 rfl) ?_
          refine lv_dup hx hb dX12_joins_37 rfl ?_
          refine va_get (D := (dC, dI)) (ci := 12) (v := .int (iI (A2 0 56))) (C := RX12) (T := TX12) (N := 85) hx hb hts hiX12 hown hK hP 0 wm0 rfl 56 (by decide) (hts _ (List.mem_cons_of_mem _ (wl_in_1 _ (List.mem_of_getElem? (i := 35) rfl)))) (fun _ h9 => h9) rfl dX12_joins_38 ?_
          refine lv_iconst (v := iI 1) hx hb dX12_joins_41 (by decide +kernel) ?_
          refine x_subv (v := (A2 0 56) - 1) hx hb dX12_joins_42 (by omega) ?_
          refine x_put (D := (dC, dI)) (ci := 12) (v := .int (iI ((A2 0 56) - 1))) (ty := .int) (C := RX12) (T := TX12) (N := 85) hx hb hts hiX12 tyX12 tyX12_ok nmX12 hown hK hP hDD hS 0 wm0 rfl 56 (by decide) (hts _ (List.mem_cons_of_mem _ (wl_in_1 _ (List.mem_of_getElem? (i := 35) rfl)))) (fun _ h9 => h9) rfl (by decide +kernel) rfl rfl (Nat.le_of_ble_eq_true rfl) dX12_joins_43 (wf56 (v := (A2 0 56) - 1)) (fun H locs hP hS => ?_)
          have hI := hI.st (j := 0) (i := 56) (v := (A2 0 56) - 1) (show (0 : Int) ≤ (A2 0 56) - 1 ∧ (A2 0 56) - 1 ≤ 500 from (by omega))
          refine lv_aload_n hx hb dX12_joins_46 rfl (lv_at hl 0 rfl) ?_
          refine lv_aload_n hx hb dX12_joins_47 rfl (lv_at hl 0 rfl) ?_
          refine va_get (D := (dC, dI)) (ci := 12) (v := .ref (q 40)) (C := RX12) (T := TX12) (N := 85) hx hb hts hiX12 hown hK hP 0 wm0 rfl 55 (by decide) (hts _ (List.mem_cons_of_mem _ (wl_in_1 _ (List.mem_of_getElem? (i := 38) rfl)))) (fun _ h9 => h9) rfl dX12_joins_48 ?_
          refine lv_aload_n hx hb dX12_joins_51 rfl (lv_at hl 0 rfl) ?_
          refine va_get (D := (dC, dI)) (ci := 12) (v := .int (iI ((A2 0 56) - 1))) (C := RX12) (T := TX12) (N := 85) hx hb hts hiX12 hown hK hP 0 wm0 rfl 56 (by decide) (hts _ (List.mem_cons_of_mem _ (wl_in_1 _ (List.mem_of_getElem? (i := 35) rfl)))) (fun _ h9 => h9) rfl dX12_joins_52 ?_
          refine x_iald hx hb hK hP 40 1 wm40 rfl (by omega) (by decide) dX12_joins_55 (fun z20 hz20 => ?_)
          have rz20 : (0 : Int) ≤ z20 ∧ z20 ≤ 22 := by rw [hz20]; exact hI 40 _
          have hz20 : z20 = A 40 ((A2 0 56) - 1).toNat := hz20.trans (congrFun a_A2_40 _)
          have ez20 : z20 = z13 := hz20.trans hz13.symm
          refine lv_iconst (v := iI 0) hx hb dX12_joins_56 (by decide +kernel) ?_
          obtain ⟨A21, hA21⟩ : ∃ A21 : St, A21 = (stA A2 0 56 ((A2 0 56) - 1)) := ⟨_, rfl⟩
          rw [← hA21] at hP hI
          have e_A21_46 : A21 0 46 = (A2 0 46) := by rw [hA21]; exact rfl
          have e_A21_47 : A21 0 47 = (A 0 47) := by rw [hA21]; exact e_A2_47
          refine x_callv (As := [.int (iI z20), .int (iI 0)]) (rest := []) ⟨hx, hb, hml, hown, hts⟩ (mb_X12_add l dC dI cB cI cJ cZ cQ q _ z20 0 hI rz20 ⟨by decide, by decide⟩ (by omega) (CI.fr hc7 (fr_def hA21 (fr.sf (fr.rf (M := []) (N := [56])) rfl)) rfl rfl)) (cwV 2 hts (goodV (wl_in_1 _ (List.mem_of_getElem? (i := 41) rfl)) (wl_in_1 _ (List.mem_of_getElem? (i := 42) rfl)) (wl_in_1 _ (List.mem_of_getElem? (i := 43) rfl)) (wl_in_0 _ (List.mem_of_getElem? (i := 8) rfl)) (wl_in_1 _ (List.mem_of_getElem? (i := 29) rfl))) rfl rfl rfl (by decide +kernel) ⟨Nat.le_of_ble_eq_true rfl, Nat.le_of_ble_eq_true rfl⟩) hK hDD hA0 hP hS 0 12 wm0 rfl rfl hl.1 (Nat.le_of_ble_eq_true rfl) dX12_joins_57 (fun A22 H locs hw23 hP hS => ?_)
          obtain ⟨hI, hf24, hw23⟩ := hw23
          obtain ⟨hc25, hw23⟩ := hw23
          have r_A22_0_46 : (0 : Int) ≤ (A22 0 46) ∧ (A22 0 46) ≤ 1600 := hI 0 46
          refine lv_goto (tgt := 0) hx hb dX12_joins_60 (by decide) ?_
          have e_A21_56 : A21 0 56 = (A2 0 56) - 1 := by rw [hA21]; rfl
          have e_A22_56 : A22 0 56 = (A2 0 56) - 1 := (hf24.2 56 rfl).trans e_A21_56
          have ca26 : A2 40 = A 40 := (hj1.1 40 (by decide) rfl)
          have ca27 : A21 33 = A2 33 := by rw [hA21]; exact rfl
          have e_A21_3 : A21 0 3 = (A 0 3) := by rw [hA21]; exact e_A2_3
          have e_A21_4 : A21 0 4 = (A 0 4) := by rw [hA21]; exact e_A2_4
          have e_A21_5 : A21 0 5 = (A 0 5) := by rw [hA21]; exact e_A2_5
          have e_A21_7 : A21 0 7 = (A 0 7) := by rw [hA21]; exact e_A2_7
          have e_A21_8 : A21 0 8 = (A 0 8) := by rw [hA21]; exact e_A2_8
          have e_A21_53 : A21 0 53 = (A 0 53) := by rw [hA21]; exact e_A2_53
          have e_A21_54 : A21 0 54 = (A 0 54) := by rw [hA21]; exact e_A2_54
          have e_A22_3 : A22 0 3 = (A 0 3) := (hf24.2 3 rfl).trans e_A21_3
          have e_A22_4 : A22 0 4 = (A 0 4) := (hf24.2 4 rfl).trans e_A21_4
          have e_A22_5 : A22 0 5 = (A 0 5) := (hf24.2 5 rfl).trans e_A21_5
          have e_A22_7 : A22 0 7 = (A 0 7) := (hf24.2 7 rfl).trans e_A21_7
          have e_A22_8 : A22 0 8 = (A 0 8) := (hf24.2 8 rfl).trans e_A21_8
          have e_A22_47 : A22 0 47 = (A 0 47) := (hf24.2 47 rfl).trans e_A21_47
          have e_A22_53 : A22 0 53 = (A 0 53) := (hf24.2 53 rfl).trans e_A21_53
          have e_A22_54 : A22 0 54 = (A 0 54) := (hf24.2 54 rfl).trans e_A21_54
          have ca28 : A21 29 = A2 29 := by rw [hA21]; exact rfl
          have ca29 : A22 29 = A2 29 := (hf24.1 29 (by decide) rfl).trans ca28
          have ca30 : A21 31 = A2 31 := by rw [hA21]; exact rfl
          have ca31 : A22 31 = A2 31 := (hf24.1 31 (by decide) rfl).trans ca30
          have ca32 : A21 35 = A2 35 := by rw [hA21]; exact rfl
          have ca33 : A22 35 = A2 35 := (hf24.1 35 (by decide) rfl).trans ca32
          have ca34 : A21 37 = A2 37 := by rw [hA21]; exact rfl
          have ca35 : A22 37 = A2 37 := (hf24.1 37 (by decide) rfl).trans ca34
          have ca36 : A21 39 = A2 39 := by rw [hA21]; exact rfl
          have ca37 : A22 39 = A2 39 := (hf24.1 39 (by decide) rfl).trans ca36
          have ca38 : A21 40 = A2 40 := by rw [hA21]; exact rfl
          have ca39 : A22 40 = A2 40 := (hf24.1 40 (by decide) rfl).trans ca38
          have ca40 : A21 1 = A2 1 := by rw [hA21]; exact rfl
          have ca41 : A22 1 = A2 1 := (hf24.1 1 (by decide) rfl).trans ca40
          have ca42 : A2 39 = A 39 := (hj1.1 39 (by decide) rfl)
          exact ih4 _ (by omega) _ _ _ _ (by exact Hd.mk (RI.pop hri hIb (by rw [ca42, show A2 0 53 - 1 = (A 0 53) - 1 by omega]; omega) ⟨ca29, ca31, (hw23.2.trans (by rw [ca27, show A21 0 47 = A2 0 47 by omega, show A21 0 46 = A2 0 46 by omega, show z20 = A2 40 (A2 0 56 - 1).toNat by rw [ca26]; exact hz20])), ca33, ca35, ca37, ca39, (by omega), (e_A22_47.trans e_A2_47.symm), (e_A22_53.trans e_A2_53.symm), (e_A22_54.trans e_A2_54.symm), (by omega)⟩ (by omega) (by omega) (by omega) (LX.of ca41 (e_A22_3.trans e_A2_3.symm) (e_A22_4.trans e_A2_4.symm) (e_A22_5.trans e_A2_5.symm) (e_A22_7.trans e_A2_7.symm) (RI.lx hri)))) hc25 (SP.fr (SP.pop hc8 (by rw [hA21]; rfl) (by rw [hA21]; rfl) (by rw [hA21]; rfl) (by rw [hA21]; rfl) (by rw [hA21, stA_same, up_same]; omega)) hf24 rfl rfl) rfl hI (fr.trans (fr_def hA21 (fr.sf (fr.trans (fr.rf) hj1 rfl rfl) rfl)) hf24 rfl rfl) hP hS (lv_sub hl [0, 1] rfl)
  exact L0_3 _ _ _ _ _ (by exact Hd.mk hp0) hcCI hcSP rfl hI (fr.rf) hP hS (lv_sub hl [0, 1] rfl)

def ws_mb_X12_opens : List Cond := .code yX12_opens cX12_opens 2 none :: WX
set_option maxHeartbeats 4000000 in
set_option maxRecDepth 100000 in
theorem mb_X12_opens (l : Launch) (dC : Nat → ClassId) (dI : Nat → Nat → Nat) (cB cI cJ cZ cQ : ClassId) (q : Nat → Nat) (A : St) (x1 : Int) (hI : IM A) (hx1 : (2 : Int) ≤ x1 ∧ x1 ≤ 5) (hp0 : Hd (A 0 8 = 0 → RI 0 A ∧ A 0 3 ≠ 0 ∧ A 37 (A 0 53 - 1).toNat = 0)) (hp1 : x1 ≠ 4) : XMv l yX12_opens ws_mb_X12_opens ({ frames := 2, cells := 0, slots := 0, locals := 47 } : Room) (dC, dI) (tyA cB cI cJ cZ cQ) (WM cI cJ cZ q) A [.ref (q 0), .int (iI x1)] (fun u => IM u ∧ fr [35, 36, 37, 39] [3, 4, 5, 6, 7, 8, 9, 53, 54] A u ∧ (Hd (u 0 8 = 0 → RI 0 u ∧ A 0 5 ≤ u 0 4 ∧ A 0 8 = 0 ∧ u 35 = up (A 35) (A 0 53).toNat x1 ∧ u 0 53 = A 0 53 + 1 ∧ u 36 = up (A 36) (A 0 53).toNat 0 ∧ u 39 = up (A 39) (A 0 53).toNat (A 0 56)))) := by
  refine x_metv (cc := cX12_opens) (maxL := 2) WM_adr (by decide +kernel) rfl (Nat.le_of_ble_eq_true rfl) (fun p e s m below meth c Q AS ls hx hb hml hown hts hK hDD hA0 hP hS hl RET => ?_)
  have hown : s.vm.findClass RX12 = some m.cls := hown
  have hl : lv_has ls 2 [(0, .ref (q 0)), (1, .int (iI x1))] := hl
  have hiX12 : ∀ w ∈ u_ws RX12 TX12 85, w ∈ ws_mb_X12_opens := fun w h => List.mem_cons_of_mem _ (wx_lay w h)
  obtain ⟨H, hHe⟩ : ∃ H : Heap, H = s.heap := ⟨_, rfl⟩
  rw [← hHe] at hP
  have hS : va_S AS s.heap H [] := by rw [hHe]; exact hS
  suffices hgo : ∀ locs : List Loc, va_S AS s.heap H locs → W p l e (headSpec ws_mb_X12_opens ({ frames := 2, cells := 0, slots := 0, locals := 47 } : Room)).room s m [.ref (q 0), .int (iI x1)].toArray below meth c H locs 0 0 Q (F0 m 0 ls []) by
    have := hgo [] hS
    rw [hHe] at this
    exact this
  clear hS hHe
  intro locs hS
  have hI0 := hI
  refine lv_aload_n hx hb dX12_opens_0 rfl (lv_at hl 0 rfl) ?_
  refine va_get (D := (dC, dI)) (ci := 12) (v := .int (iI (A 0 54))) (C := RX12) (T := TX12) (N := 85) hx hb hts hiX12 hown hK hP 0 wm0 rfl 54 (by decide) (hts _ (List.mem_cons_of_mem _ (wl_in_1 _ (List.mem_of_getElem? (i := 50) rfl)))) (fun _ h9 => h9) rfl dX12_opens_1 ?_
  have r_A_0_54 : (0 : Int) ≤ (A 0 54) ∧ (A 0 54) ≤ 8 := hI 0 54
  refine lv_bipush (v := iI 8) hx hb dX12_opens_4 (by decide +kernel) ?_
  have J18_2 : ∀ (A7 : St) (H : Heap) (locs : List Loc) (ls : Array Slot), (Hd ((A7 0 8) = 0 → (A 0 8 = 0 ∧ ¬ A 0 54 = 8))) → IM A7 → fr [] [8, 9] A A7 → va_P (dC, dI) vwCl (WM cI cJ cZ q A7) H → va_S AS s.heap H locs → lv_has ls 2 [(0, .ref (q 0)), (1, .int (iI x1))] → W p l e (headSpec ws_mb_X12_opens ({ frames := 2, cells := 0, slots := 0, locals := 47 } : Room)).room s m [.ref (q 0), .int (iI x1)].toArray below meth c H locs 0 0 Q (F0 m 18 ls []) := by
    intro A7 H locs ls f8 hI hj6 hP hS hl
    refine lv_aload_n hx hb dX12_opens_18 rfl (lv_at hl 0 rfl) ?_
    refine va_get (D := (dC, dI)) (ci := 12) (v := .int (iI (A7 0 8))) (C := RX12) (T := TX12) (N := 85) hx hb hts hiX12 hown hK hP 0 wm0 rfl 8 (by decide) (hts _ (List.mem_cons_of_mem _ (wl_in_0 _ (List.mem_of_getElem? (i := 16) rfl)))) (fun _ h9 => h9) rfl dX12_opens_19 ?_
    have r_A7_0_8 : (0 : Int) ≤ (A7 0 8) ∧ (A7 0 8) ≤ 5 := hI 0 8
    refine lv_if_le (tgt := 26) hx hb dX12_opens_22 (by decide) (fun c9 => ?_) (fun c9 => ?_)
    · have c9 : (A7 0 8) ≤ 0 := (i_le0 (rb r_A7_0_8 (by decide) (by decide))).mp c9
      have g8 := f8.out (by omega)
      have gR := hp0.out g8.1
      have hdp := RI.deep gR.1 hI0
      refine lv_aload_n hx hb dX12_opens_26 rfl (lv_at hl 0 rfl) ?_
      refine lv_dup hx hb dX12_opens_27 rfl ?_
      have e_A7_54 : A7 0 54 = (A 0 54) := (hj6.2 54 rfl)
      refine va_get (D := (dC, dI)) (ci := 12) (v := .int (iI (A7 0 54))) (C := RX12) (T := TX12) (N := 85) hx hb hts hiX12 hown hK hP 0 wm0 rfl 54 (by decide) (hts _ (List.mem_cons_of_mem _ (wl_in_1 _ (List.mem_of_getElem? (i := 50) rfl)))) (fun _ h9 => h9) rfl dX12_opens_28 ?_
      refine tp_i (y := iI (A 0 54)) (congrArg iI e_A7_54) ?_
      refine lv_iconst (v := iI 1) hx hb dX12_opens_31 (by decide +kernel) ?_
      refine x_addv (v := (A 0 54) + 1) hx hb dX12_opens_32 (by omega) ?_
      refine x_put (D := (dC, dI)) (ci := 12) (v := .int (iI ((A 0 54) + 1))) (ty := .int) (C := RX12) (T := TX12) (N := 85) hx hb hts hiX12 tyX12 tyX12_ok nmX12 hown hK hP hDD hS 0 wm0 rfl 54 (by decide) (hts _ (List.mem_cons_of_mem _ (wl_in_1 _ (List.mem_of_getElem? (i := 50) rfl)))) (fun _ h9 => h9) rfl (by decide +kernel) rfl rfl (Nat.le_of_ble_eq_true rfl) dX12_opens_33 (wf54 (v := (A 0 54) + 1)) (fun H locs hP hS => ?_)
      have hI := hI.st (j := 0) (i := 54) (v := (A 0 54) + 1) (show (0 : Int) ≤ (A 0 54) + 1 ∧ (A 0 54) + 1 ≤ 8 from (by omega))
      refine lv_aload_n hx hb dX12_opens_36 rfl (lv_at hl 0 rfl) ?_
      obtain ⟨A10, hA10⟩ : ∃ A10 : St, A10 = (stA A7 0 54 ((A 0 54) + 1)) := ⟨_, rfl⟩
      rw [← hA10] at hP hI
      have e_A7_4 : A7 0 4 = (A 0 4) := (hj6.2 4 rfl)
      have e_A10_4 : A10 0 4 = (A 0 4) := by rw [hA10]; exact e_A7_4
      have r_A_0_4 : (0 : Int) ≤ (A 0 4) ∧ (A 0 4) ≤ 1600 := by rw [← e_A10_4]; exact hI 0 4
      have e_A7_5 : A7 0 5 = (A 0 5) := (hj6.2 5 rfl)
      have e_A10_5 : A10 0 5 = (A 0 5) := by rw [hA10]; exact e_A7_5
      have r_A_0_5 : (0 : Int) ≤ (A 0 5) ∧ (A 0 5) ≤ 1600 := by rw [← e_A10_5]; exact hI 0 5
      have e_A10_8 : A10 0 8 = (A7 0 8) := by rw [hA10]; exact rfl
      refine x_callv (As := []) (rest := []) ⟨hx, hb, hml, hown, hts⟩ (mb_X12_ahead l dC dI cB cI cJ cZ cQ q _ hI) (cwV 0 hts (goodV (wl_in_0 _ (List.mem_of_getElem? (i := 40) rfl)) (wl_in_0 _ (List.mem_of_getElem? (i := 41) rfl)) (wl_in_0 _ (List.mem_of_getElem? (i := 42) rfl)) (wl_in_0 _ (List.mem_of_getElem? (i := 8) rfl)) (wl_in_0 _ (List.mem_of_getElem? (i := 20) rfl))) rfl rfl rfl (by decide +kernel) ⟨Nat.le_of_ble_eq_true rfl, Nat.le_of_ble_eq_true rfl⟩) hK hDD hA0 hP hS 0 12 wm0 rfl rfl hl.1 (Nat.le_of_ble_eq_true rfl) dX12_opens_37 (fun A11 H locs hw12 hP hS => ?_)
      obtain ⟨hI, hf13, hw12⟩ := hw12
      have r_A11_0_3 : (0 : Int) ≤ (A11 0 3) ∧ (A11 0 3) ≤ 3 := hI 0 3
      have r_A11_0_4 : (0 : Int) ≤ (A11 0 4) ∧ (A11 0 4) ≤ 1600 := hI 0 4
      have r_A11_0_5 : (0 : Int) ≤ (A11 0 5) ∧ (A11 0 5) ≤ 1600 := hI 0 5
      have r_A11_0_8 : (0 : Int) ≤ (A11 0 8) ∧ (A11 0 8) ≤ 5 := hI 0 8
      refine lv_aload_n hx hb dX12_opens_40 rfl (lv_at hl 0 rfl) ?_
      refine lv_iload_n hx hb dX12_opens_41 rfl (lv_at hl 1 rfl) ?_
      have e_A7_53 : A7 0 53 = (A 0 53) := (hj6.2 53 rfl)
      have e_A10_53 : A10 0 53 = (A 0 53) := by rw [hA10]; exact e_A7_53
      have e_A11_53 : A11 0 53 = (A 0 53) := (hf13.2 53 rfl).trans e_A10_53
      have r_A_0_53 : (0 : Int) ≤ (A 0 53) ∧ (A 0 53) ≤ 20 := by rw [← e_A11_53]; exact hI 0 53
      have e_A7_56 : A7 0 56 = (A 0 56) := (hj6.2 56 rfl)
      have e_A10_56 : A10 0 56 = (A 0 56) := by rw [hA10]; exact e_A7_56
      have e_A11_56 : A11 0 56 = (A 0 56) := (hf13.2 56 rfl).trans e_A10_56
      have r_A_0_56 : (0 : Int) ≤ (A 0 56) ∧ (A 0 56) ≤ 500 := by rw [← e_A11_56]; exact hI 0 56
      refine x_callv (As := [.int (iI x1)]) (rest := []) ⟨hx, hb, hml, hown, hts⟩ (mb_X12_pushes l dC dI cB cI cJ cZ cQ q _ x1 hI (rb hx1 (by decide) (by decide)) (by omega)) (cwV 1 hts (goodV (wl_in_1 _ (List.mem_of_getElem? (i := 51) rfl)) (wl_in_1 _ (List.mem_of_getElem? (i := 52) rfl)) (wl_in_1 _ (List.mem_of_getElem? (i := 53) rfl)) (wl_in_0 _ (List.mem_of_getElem? (i := 8) rfl)) (wl_in_1 _ (List.mem_of_getElem? (i := 45) rfl))) rfl rfl rfl (by decide +kernel) ⟨Nat.le_of_ble_eq_true rfl, Nat.le_of_ble_eq_true rfl⟩) hK hDD hA0 hP hS 0 12 wm0 rfl rfl hl.1 (Nat.le_of_ble_eq_true rfl) dX12_opens_42 (fun A14 H locs hw15 hP hS => ?_)
      obtain ⟨hI, hf16, hw15⟩ := hw15
      have r_A14_0_53 : (0 : Int) ≤ (A14 0 53) ∧ (A14 0 53) ≤ 20 := hI 0 53
      have e_A14_4 : A14 0 4 = (A11 0 4) := (hf16.2 4 rfl)
      have e_A14_5 : A14 0 5 = (A11 0 5) := (hf16.2 5 rfl)
      have e_A14_8 : A14 0 8 = (A11 0 8) := (hf16.2 8 rfl)
      have e_A7_46 : A7 0 46 = (A 0 46) := (hj6.2 46 rfl)
      have e_A10_46 : A10 0 46 = (A 0 46) := by rw [hA10]; exact e_A7_46
      have e_A11_46 : A11 0 46 = (A 0 46) := (hf13.2 46 rfl).trans e_A10_46
      have e_A7_47 : A7 0 47 = (A 0 47) := (hj6.2 47 rfl)
      have e_A10_47 : A10 0 47 = (A 0 47) := by rw [hA10]; exact e_A7_47
      have e_A11_47 : A11 0 47 = (A 0 47) := (hf13.2 47 rfl).trans e_A10_47
      have e_A10_54 : A10 0 54 = (A 0 54) + 1 := by rw [hA10]; rfl
      have e_A11_54 : A11 0 54 = (A 0 54) + 1 := (hf13.2 54 rfl).trans e_A10_54
      have e_A14_7 : A14 0 7 = (A11 0 7) := (hf16.2 7 rfl)
      have r_A11_0_7 : (-9223372036854775808 : Int) ≤ (A11 0 7) ∧ (A11 0 7) ≤ 9223372036854775807 := by rw [← e_A14_7]; exact hI 0 7
      have e_A14_46 : A14 0 46 = (A 0 46) := (hf16.2 46 rfl).trans e_A11_46
      have r_A_0_46 : (0 : Int) ≤ (A 0 46) ∧ (A 0 46) ≤ 1600 := by rw [← e_A14_46]; exact hI 0 46
      have e_A14_47 : A14 0 47 = (A 0 47) := (hf16.2 47 rfl).trans e_A11_47
      have r_A_0_47 : (0 : Int) ≤ (A 0 47) ∧ (A 0 47) ≤ 1 := by rw [← e_A14_47]; exact hI 0 47
      have ca17 : A7 35 = A 35 := (hj6.1 35 (by decide) rfl)
      have ca18 : A10 35 = A 35 := by rw [hA10]; exact ca17
      have ca19 : A11 35 = A 35 := (hf13.1 35 (by decide) rfl).trans ca18
      have ca20 : A7 37 = A 37 := (hj6.1 37 (by decide) rfl)
      have ca21 : A10 37 = A 37 := by rw [hA10]; exact ca20
      have ca22 : A11 37 = A 37 := (hf13.1 37 (by decide) rfl).trans ca21
      have ca23 : A7 39 = A 39 := (hj6.1 39 (by decide) rfl)
      have ca24 : A10 39 = A 39 := by rw [hA10]; exact ca23
      have ca25 : A11 39 = A 39 := (hf13.1 39 (by decide) rfl).trans ca24
      have e_A14_3 : A14 0 3 = (A11 0 3) := (hf16.2 3 rfl)
      have e_A14_54 : A14 0 54 = (A 0 54) + 1 := (hf16.2 54 rfl).trans e_A11_54
      have e_A14_56 : A14 0 56 = (A 0 56) := (hf16.2 56 rfl).trans e_A11_56
      have ca26 : A7 29 = A 29 := (hj6.1 29 (by decide) rfl)
      have ca27 : A10 29 = A 29 := by rw [hA10]; exact ca26
      have ca28 : A11 29 = A 29 := (hf13.1 29 (by decide) rfl).trans ca27
      have ca29 : A14 29 = A 29 := (hf16.1 29 (by decide) rfl).trans ca28
      have ca30 : A7 31 = A 31 := (hj6.1 31 (by decide) rfl)
      have ca31 : A10 31 = A 31 := by rw [hA10]; exact ca30
      have ca32 : A11 31 = A 31 := (hf13.1 31 (by decide) rfl).trans ca31
      have ca33 : A14 31 = A 31 := (hf16.1 31 (by decide) rfl).trans ca32
      have ca34 : A7 33 = A 33 := (hj6.1 33 (by decide) rfl)
      have ca35 : A10 33 = A 33 := by rw [hA10]; exact ca34
      have ca36 : A11 33 = A 33 := (hf13.1 33 (by decide) rfl).trans ca35
      have ca37 : A14 33 = A 33 := (hf16.1 33 (by decide) rfl).trans ca36
      have ca38 : A7 40 = A 40 := (hj6.1 40 (by decide) rfl)
      have ca39 : A10 40 = A 40 := by rw [hA10]; exact ca38
      have ca40 : A11 40 = A 40 := (hf13.1 40 (by decide) rfl).trans ca39
      have ca41 : A14 40 = A 40 := (hf16.1 40 (by decide) rfl).trans ca40
      have ca42 : A14 1 = A11 1 := (hf16.1 1 (by decide) rfl)
      have ca43 : A7 35 = A 35 := (hj6.1 35 (by decide) rfl)
      have ca44 : A10 35 = A 35 := by rw [hA10]; exact ca43
      have ca45 : A11 35 = A 35 := (hf13.1 35 (by decide) rfl).trans ca44
      have ca46 : A7 36 = A 36 := (hj6.1 36 (by decide) rfl)
      have ca47 : A10 36 = A 36 := by rw [hA10]; exact ca46
      have ca48 : A11 36 = A 36 := (hf13.1 36 (by decide) rfl).trans ca47
      have ca49 : A7 39 = A 39 := (hj6.1 39 (by decide) rfl)
      have ca50 : A10 39 = A 39 := by rw [hA10]; exact ca49
      have ca51 : A11 39 = A 39 := (hf13.1 39 (by decide) rfl).trans ca50
      exact RET _ _ _ _ _ ⟨hI, fr.trans (fr.trans (fr_def hA10 (fr.sf (fr.trans (fr.rf) hj6 rfl rfl) rfl)) hf13 rfl rfl) hf16 rfl rfl, Hd.mk (fun h0 => ⟨RI.opn (r35 := A 35) (r37 := A 37) (r39 := A 39) gR.1 hI0 gR.2.1 (by omega) hp1 gR.2.2 ⟨ca29, ca33, ca37, (hw15.2.1.trans (by rw [ca19, show A11 0 53 = A 0 53 by omega])), (hw15.2.2.1.trans (by rw [ca22, show A11 0 53 = A 0 53 by omega])), (hw15.2.2.2.1.trans (by rw [ca25, show A11 0 53 = A 0 53 by omega, show A11 0 56 = A 0 56 by omega])), ca41, e_A14_46, e_A14_47, (by omega), (by omega), e_A14_56⟩ (by omega) (by omega) (LX.of ca42 e_A14_3 e_A14_4 e_A14_5 e_A14_7 hw12.2.2.1), by omega, g8.1, (hw15.2.1.trans (by rw [ca45, show A11 0 53 = A 0 53 by omega])), by omega, (hw15.2.2.2.2.trans (by rw [ca48, show A11 0 53 = A 0 53 by omega])), (hw15.2.2.2.1.trans (by rw [ca51, show A11 0 53 = A 0 53 by omega, show A11 0 56 = A 0 56 by omega]))⟩)⟩ hP hS dX12_opens_45
    · have c9 : ¬ (A7 0 8) ≤ 0 := mt (i_le0 (rb r_A7_0_8 (by decide) (by decide))).mpr c9
      have e_A7_4 : A7 0 4 = (A 0 4) := (hj6.2 4 rfl)
      have r_A_0_4 : (0 : Int) ≤ (A 0 4) ∧ (A 0 4) ≤ 1600 := by rw [← e_A7_4]; exact hI 0 4
      have e_A7_5 : A7 0 5 = (A 0 5) := (hj6.2 5 rfl)
      have r_A_0_5 : (0 : Int) ≤ (A 0 5) ∧ (A 0 5) ≤ 1600 := by rw [← e_A7_5]; exact hI 0 5
      have e_A7_53 : A7 0 53 = (A 0 53) := (hj6.2 53 rfl)
      have r_A_0_53 : (0 : Int) ≤ (A 0 53) ∧ (A 0 53) ≤ 20 := by rw [← e_A7_53]; exact hI 0 53
      exact RET _ _ _ _ _ ⟨hI, fr.trans (fr.rf) hj6 rfl rfl, Hd.mk (fun h => absurd h (by omega))⟩ hP hS dX12_opens_25
  refine lv_icmp_ne (tgt := 18) hx hb dX12_opens_6 (by decide) (fun c1 => ?_) (fun c1 => ?_)
  · have c1 : ¬ (A 0 54) = 8 := mt (i_eq (rb r_A_0_54 (by decide) (by decide)) ⟨by decide, by decide⟩).mpr c1
    have r_A_0_8 : (0 : Int) ≤ (A 0 8) ∧ (A 0 8) ≤ 5 := hI 0 8
    exact J18_2 _ _ _ _ (by exact Hd.mk (by  omega)) hI (fr.rf) hP hS (lv_sub hl [0, 1] rfl)
  · have c1 : (A 0 54) = 8 := (i_eq (rb r_A_0_54 (by decide) (by decide)) ⟨by decide, by decide⟩).mp c1
    refine lv_aload_n hx hb dX12_opens_9 rfl (lv_at hl 0 rfl) ?_
    refine lv_iconst (v := iI 5) hx hb dX12_opens_10 (by decide +kernel) ?_
    refine lv_aload_n hx hb dX12_opens_11 rfl (lv_at hl 0 rfl) ?_
    refine va_get (D := (dC, dI)) (ci := 12) (v := .int (iI (A 0 4))) (C := RX12) (T := TX12) (N := 85) hx hb hts hiX12 hown hK hP 0 wm0 rfl 4 (by decide) (hts _ (List.mem_cons_of_mem _ (wl_in_0 _ (List.mem_of_getElem? (i := 23) rfl)))) (fun _ h9 => h9) rfl dX12_opens_12 ?_
    have r_A_0_4 : (0 : Int) ≤ (A 0 4) ∧ (A 0 4) ≤ 1600 := hI 0 4
    refine x_callv (As := [.int (iI 5), .int (iI (A 0 4))]) (rest := []) ⟨hx, hb, hml, hown, hts⟩ (mc_X12_blame l dC dI cB cI cJ cZ cQ q _ 5 (A 0 4) hI ⟨by decide, by decide⟩ r_A_0_4) (cwV 2 hts (goodV (wl_in_0 _ (List.mem_of_getElem? (i := 31) rfl)) (wl_in_0 _ (List.mem_of_getElem? (i := 32) rfl)) (wl_in_0 _ (List.mem_of_getElem? (i := 33) rfl)) (wl_in_0 _ (List.mem_of_getElem? (i := 8) rfl)) (wl_in_0 _ (List.mem_of_getElem? (i := 15) rfl))) rfl rfl rfl (by decide +kernel) ⟨Nat.le_of_ble_eq_true rfl, Nat.le_of_ble_eq_true rfl⟩) hK hDD hA0 hP hS 0 12 wm0 rfl rfl hl.1 (Nat.le_of_ble_eq_true rfl) dX12_opens_15 (fun A3 H locs hw4 hP hS => ?_)
    obtain ⟨hI, hf5, hw4⟩ := hw4
    have r_A3_0_8 : (0 : Int) ≤ (A3 0 8) ∧ (A3 0 8) ≤ 5 := hI 0 8
    exact J18_2 _ _ _ _ (by exact Hd.mk (by  omega)) hI (fr.trans (fr.rf) hf5 rfl rfl) hP hS (lv_sub hl [0, 1] rfl)
