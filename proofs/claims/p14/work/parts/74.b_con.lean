abbrev tr_r_X12_rank (x1 : Int) (A : St) (z : Int) : Prop := (((¬ x1 = 21) ∧ (((¬ x1 = 20) ∧ (((¬ x1 = 22) ∧ (((x1 = 17) ∧ (z = 4)) ∨ ((¬ x1 = 17) ∧ (((x1 = 18) ∧ (z = 4)) ∨ ((¬ x1 = 18) ∧ (((¬ x1 = 19) ∧ (((x1 = 10) ∧ (z = 5)) ∨ ((¬ x1 = 10) ∧ (((¬ x1 = 11) ∧ (z = 6)) ∨ ((x1 = 11) ∧ (z = 5)))))) ∨ ((x1 = 19) ∧ (z = 4)))))))) ∨ ((x1 = 22) ∧ (z = 3)))) ∨ ((x1 = 20) ∧ (z = 2)))) ∨ ((x1 = 21) ∧ (z = 1)))
def r_X12_rank (x1 : Int) (A : St) (z : Int) : Prop := tr_r_X12_rank x1 A z
theorem u_r_X12_rank {x1 : Int} {A : St} {z : Int} (h : tr_r_X12_rank x1 A z) : r_X12_rank x1 A z := h
def q_X12_rank (x1 : Int) (A : St) (z : Int) : Prop := r_X12_rank x1 A z ∧ (1 ≤ z ∧ z ≤ 6 ∧ z = rk x1)
def ws_mb_X12_rank : List Cond := .code yX12_rank cX12_rank 1 (some .int) :: WX
set_option maxHeartbeats 4000000 in
set_option maxRecDepth 100000 in
theorem mb_X12_rank (l : Launch) (dC : Nat → ClassId) (dI : Nat → Nat → Nat) (cB cI cJ cZ cQ : ClassId) (q : Nat → Nat) (A : St) (x1 : Int) (hI : IM A) (hx1 : (-2147483648 : Int) ≤ x1 ∧ x1 ≤ 2147483647) : XMi l yX12_rank ws_mb_X12_rank ({ frames := 0, cells := 0, slots := 0, locals := 0 } : Room) (dC, dI) (tyA cB cI cJ cZ cQ) (WM cI cJ cZ q) A [.int (iI x1)] (fun z u => A = u ∧ r_X12_rank x1 A z ∧ (1 ≤ z ∧ z ≤ 6 ∧ z = rk x1)) := by
  refine x_meti (cc := cX12_rank) (maxL := 1) WM_adr (by decide +kernel) rfl (Nat.le_of_ble_eq_true rfl) (fun p e s m below meth c Q AS ls hx hb hml hown hts hK hDD hA0 hP hS hl RET => ?_)
  have hown : s.vm.findClass RX12 = some m.cls := hown
  have hl : lv_has ls 1 [(0, .int (iI x1))] := hl
  obtain ⟨H, hHe⟩ : ∃ H : Heap, H = s.heap := ⟨_, rfl⟩
  rw [← hHe] at hP
  have hS : va_S AS s.heap H [] := by rw [hHe]; exact hS
  suffices hgo : ∀ locs : List Loc, va_S AS s.heap H locs → W p l e (headSpec ws_mb_X12_rank ({ frames := 0, cells := 0, slots := 0, locals := 0 } : Room)).room s m [.int (iI x1)].toArray below meth c H locs 0 0 Q (F0 m 0 ls []) by
    have := hgo [] hS
    rw [hHe] at this
    exact this
  clear hS hHe
  intro locs hS
  refine lv_iload_n hx hb dX12_rank_0 rfl (lv_at hl 0 rfl) ?_
  refine lv_bipush (v := iI 21) hx hb dX12_rank_1 (by decide +kernel) ?_
  refine lv_icmp_ne (tgt := 10) hx hb dX12_rank_3 (by decide) (fun c1 => ?_) (fun c1 => ?_)
  · have c1 : ¬ x1 = 21 := mt (i_eq hx1 ⟨by decide, by decide⟩).mpr c1
    refine lv_iload_n hx hb dX12_rank_10 rfl (lv_at hl 0 rfl) ?_
    refine lv_bipush (v := iI 20) hx hb dX12_rank_11 (by decide +kernel) ?_
    refine lv_icmp_ne (tgt := 20) hx hb dX12_rank_13 (by decide) (fun c2 => ?_) (fun c2 => ?_)
    · have c2 : ¬ x1 = 20 := mt (i_eq hx1 ⟨by decide, by decide⟩).mpr c2
      refine lv_iload_n hx hb dX12_rank_20 rfl (lv_at hl 0 rfl) ?_
      refine lv_bipush (v := iI 22) hx hb dX12_rank_21 (by decide +kernel) ?_
      refine lv_icmp_ne (tgt := 30) hx hb dX12_rank_23 (by decide) (fun c3 => ?_) (fun c3 => ?_)
      · have c3 : ¬ x1 = 22 := mt (i_eq hx1 ⟨by decide, by decide⟩).mpr c3
        refine lv_iload_n hx hb dX12_rank_30 rfl (lv_at hl 0 rfl) ?_
        refine lv_bipush (v := iI 17) hx hb dX12_rank_31 (by decide +kernel) ?_
        refine lv_icmp_eq (tgt := 48) hx hb dX12_rank_33 (by decide) (fun c4 => ?_) (fun c4 => ?_)
        · have c4 : x1 = 17 := (i_eq hx1 ⟨by decide, by decide⟩).mp c4
          refine lv_iconst (v := iI 4) hx hb dX12_rank_48 (by decide +kernel) ?_
          refine lv_goto (tgt := 70) hx hb dX12_rank_49 (by decide) ?_
          exact RET 4 _ _ _ _ _ ⟨rfl, (u_r_X12_rank (Or.inl ⟨c1, (Or.inl ⟨c2, (Or.inl ⟨c3, (Or.inl ⟨c4, rfl⟩)⟩)⟩)⟩)), ⟨by decide, by decide, (by unfold rk; (repeat' split) <;> omega)⟩⟩ hP hS dX12_rank_70
        · have c4 : ¬ x1 = 17 := mt (i_eq hx1 ⟨by decide, by decide⟩).mpr c4
          refine lv_iload_n hx hb dX12_rank_36 rfl (lv_at hl 0 rfl) ?_
          refine lv_bipush (v := iI 18) hx hb dX12_rank_37 (by decide +kernel) ?_
          refine lv_icmp_eq (tgt := 48) hx hb dX12_rank_39 (by decide) (fun c5 => ?_) (fun c5 => ?_)
          · have c5 : x1 = 18 := (i_eq hx1 ⟨by decide, by decide⟩).mp c5
            refine lv_iconst (v := iI 4) hx hb dX12_rank_48 (by decide +kernel) ?_
            refine lv_goto (tgt := 70) hx hb dX12_rank_49 (by decide) ?_
            exact RET 4 _ _ _ _ _ ⟨rfl, (u_r_X12_rank (Or.inl ⟨c1, (Or.inl ⟨c2, (Or.inl ⟨c3, (Or.inr ⟨c4, (Or.inl ⟨c5, rfl⟩)⟩)⟩)⟩)⟩)), ⟨by decide, by decide, (by unfold rk; (repeat' split) <;> omega)⟩⟩ hP hS dX12_rank_70
          · have c5 : ¬ x1 = 18 := mt (i_eq hx1 ⟨by decide, by decide⟩).mpr c5
            refine lv_iload_n hx hb dX12_rank_42 rfl (lv_at hl 0 rfl) ?_
            refine lv_bipush (v := iI 19) hx hb dX12_rank_43 (by decide +kernel) ?_
            refine lv_icmp_ne (tgt := 52) hx hb dX12_rank_45 (by decide) (fun c6 => ?_) (fun c6 => ?_)
            · have c6 : ¬ x1 = 19 := mt (i_eq hx1 ⟨by decide, by decide⟩).mpr c6
              refine lv_iload_n hx hb dX12_rank_52 rfl (lv_at hl 0 rfl) ?_
              refine lv_bipush (v := iI 10) hx hb dX12_rank_53 (by decide +kernel) ?_
              refine lv_icmp_eq (tgt := 64) hx hb dX12_rank_55 (by decide) (fun c7 => ?_) (fun c7 => ?_)
              · have c7 : x1 = 10 := (i_eq hx1 ⟨by decide, by decide⟩).mp c7
                refine lv_iconst (v := iI 5) hx hb dX12_rank_64 (by decide +kernel) ?_
                refine lv_goto (tgt := 70) hx hb dX12_rank_65 (by decide) ?_
                exact RET 5 _ _ _ _ _ ⟨rfl, (u_r_X12_rank (Or.inl ⟨c1, (Or.inl ⟨c2, (Or.inl ⟨c3, (Or.inr ⟨c4, (Or.inr ⟨c5, (Or.inl ⟨c6, (Or.inl ⟨c7, rfl⟩)⟩)⟩)⟩)⟩)⟩)⟩)), ⟨by decide, by decide, (by unfold rk; (repeat' split) <;> omega)⟩⟩ hP hS dX12_rank_70
              · have c7 : ¬ x1 = 10 := mt (i_eq hx1 ⟨by decide, by decide⟩).mpr c7
                refine lv_iload_n hx hb dX12_rank_58 rfl (lv_at hl 0 rfl) ?_
                refine lv_bipush (v := iI 11) hx hb dX12_rank_59 (by decide +kernel) ?_
                refine lv_icmp_ne (tgt := 68) hx hb dX12_rank_61 (by decide) (fun c8 => ?_) (fun c8 => ?_)
                · have c8 : ¬ x1 = 11 := mt (i_eq hx1 ⟨by decide, by decide⟩).mpr c8
                  refine lv_bipush (v := iI 6) hx hb dX12_rank_68 (by decide +kernel) ?_
                  exact RET 6 _ _ _ _ _ ⟨rfl, (u_r_X12_rank (Or.inl ⟨c1, (Or.inl ⟨c2, (Or.inl ⟨c3, (Or.inr ⟨c4, (Or.inr ⟨c5, (Or.inl ⟨c6, (Or.inr ⟨c7, (Or.inl ⟨c8, rfl⟩)⟩)⟩)⟩)⟩)⟩)⟩)⟩)), ⟨by decide, by decide, (by unfold rk; (repeat' split) <;> omega)⟩⟩ hP hS dX12_rank_70
                · have c8 : x1 = 11 := (i_eq hx1 ⟨by decide, by decide⟩).mp c8
                  refine lv_iconst (v := iI 5) hx hb dX12_rank_64 (by decide +kernel) ?_
                  refine lv_goto (tgt := 70) hx hb dX12_rank_65 (by decide) ?_
                  exact RET 5 _ _ _ _ _ ⟨rfl, (u_r_X12_rank (Or.inl ⟨c1, (Or.inl ⟨c2, (Or.inl ⟨c3, (Or.inr ⟨c4, (Or.inr ⟨c5, (Or.inl ⟨c6, (Or.inr ⟨c7, (Or.inr ⟨c8, rfl⟩)⟩)⟩)⟩)⟩)⟩)⟩)⟩)), ⟨by decide, by decide, (by unfold rk; (repeat' split) <;> omega)⟩⟩ hP hS dX12_rank_70
            · have c6 : x1 = 19 := (i_eq hx1 ⟨by decide, by decide⟩).mp c6
              refine lv_iconst (v := iI 4) hx hb dX12_rank_48 (by decide +kernel) ?_
              refine lv_goto (tgt := 70) hx hb dX12_rank_49 (by decide) ?_
              exact RET 4 _ _ _ _ _ ⟨rfl, (u_r_X12_rank (Or.inl ⟨c1, (Or.inl ⟨c2, (Or.inl ⟨c3, (Or.inr ⟨c4, (Or.inr ⟨c5, (Or.inr ⟨c6, rfl⟩)⟩)⟩)⟩)⟩)⟩)), ⟨by decide, by decide, (by unfold rk; (repeat' split) <;> omega)⟩⟩ hP hS dX12_rank_70
      · have c3 : x1 = 22 := (i_eq hx1 ⟨by decide, by decide⟩).mp c3
        refine lv_iconst (v := iI 3) hx hb dX12_rank_26 (by decide +kernel) ?_
        refine lv_goto (tgt := 70) hx hb dX12_rank_27 (by decide) ?_
        exact RET 3 _ _ _ _ _ ⟨rfl, (u_r_X12_rank (Or.inl ⟨c1, (Or.inl ⟨c2, (Or.inr ⟨c3, rfl⟩)⟩)⟩)), ⟨by decide, by decide, (by unfold rk; (repeat' split) <;> omega)⟩⟩ hP hS dX12_rank_70
    · have c2 : x1 = 20 := (i_eq hx1 ⟨by decide, by decide⟩).mp c2
      refine lv_iconst (v := iI 2) hx hb dX12_rank_16 (by decide +kernel) ?_
      refine lv_goto (tgt := 70) hx hb dX12_rank_17 (by decide) ?_
      exact RET 2 _ _ _ _ _ ⟨rfl, (u_r_X12_rank (Or.inl ⟨c1, (Or.inr ⟨c2, rfl⟩)⟩)), ⟨by decide, by decide, (by unfold rk; (repeat' split) <;> omega)⟩⟩ hP hS dX12_rank_70
  · have c1 : x1 = 21 := (i_eq hx1 ⟨by decide, by decide⟩).mp c1
    refine lv_iconst (v := iI 1) hx hb dX12_rank_6 (by decide +kernel) ?_
    refine lv_goto (tgt := 70) hx hb dX12_rank_7 (by decide) ?_
    exact RET 1 _ _ _ _ _ ⟨rfl, (u_r_X12_rank (Or.inr ⟨c1, rfl⟩)), ⟨by decide, by decide, (by unfold rk; (repeat' split) <;> omega)⟩⟩ hP hS dX12_rank_70

abbrev tr_r_X12_add (x1 : Int) (x2 : Int) (A : St) (u : St) : Prop := (∃ A1 : St, A1 = (stA (stA (stA A 33 (1600 * (A 0 47) + (A 0 46)).toNat x1) 34 (1600 * (A 0 47) + (A 0 46)).toNat x2) 0 46 ((A 0 46) + 1)) ∧ (u = A1))
def r_X12_add (x1 : Int) (x2 : Int) (A : St) (u : St) : Prop := tr_r_X12_add x1 x2 A u
theorem u_r_X12_add {x1 : Int} {x2 : Int} {A : St} {u : St} (h : tr_r_X12_add x1 x2 A u) : r_X12_add x1 x2 A u := h
def q_X12_add (x1 : Int) (x2 : Int) (A : St) (u : St) : Prop := r_X12_add x1 x2 A u ∧ IM u ∧ fr [33, 34] [46] A u ∧ CI u ∧ (u 0 46 = A 0 46 + 1 ∧ u 33 = up (A 33) (1600 * A 0 47 + A 0 46).toNat x1)
def ws_mb_X12_add : List Cond := .code yX12_add cX12_add 3 none :: WX
set_option maxHeartbeats 4000000 in
set_option maxRecDepth 100000 in
theorem mb_X12_add (l : Launch) (dC : Nat → ClassId) (dI : Nat → Nat → Nat) (cB cI cJ cZ cQ : ClassId) (q : Nat → Nat) (A : St) (x1 x2 : Int) (hI : IM A) (hx1 : (0 : Int) ≤ x1 ∧ x1 ≤ 22) (hx2 : (-2147483648 : Int) ≤ x2 ∧ x2 ≤ 2147483647) (hp0 : A 0 46 < 1600) (hcCI : CI A) : XMv l yX12_add ws_mb_X12_add ({ frames := 0, cells := 0, slots := 0, locals := 0 } : Room) (dC, dI) (tyA cB cI cJ cZ cQ) (WM cI cJ cZ q) A [.ref (q 0), .int (iI x1), .int (iI x2)] (fun u => r_X12_add x1 x2 A u ∧ IM u ∧ fr [33, 34] [46] A u ∧ CI u ∧ (u 0 46 = A 0 46 + 1 ∧ u 33 = up (A 33) (1600 * A 0 47 + A 0 46).toNat x1)) := by
  refine x_metv (cc := cX12_add) (maxL := 3) WM_adr (by decide +kernel) rfl (Nat.le_of_ble_eq_true rfl) (fun p e s m below meth c Q AS ls hx hb hml hown hts hK hDD hA0 hP hS hl RET => ?_)
  have hown : s.vm.findClass RX12 = some m.cls := hown
  have hl : lv_has ls 3 [(0, .ref (q 0)), (1, .int (iI x1)), (2, .int (iI x2))] := hl
  have hiX12 : ∀ w ∈ u_ws RX12 TX12 85, w ∈ ws_mb_X12_add := fun w h => List.mem_cons_of_mem _ (wx_lay w h)
  obtain ⟨H, hHe⟩ : ∃ H : Heap, H = s.heap := ⟨_, rfl⟩
  rw [← hHe] at hP
  have hS : va_S AS s.heap H [] := by rw [hHe]; exact hS
  suffices hgo : ∀ locs : List Loc, va_S AS s.heap H locs → W p l e (headSpec ws_mb_X12_add ({ frames := 0, cells := 0, slots := 0, locals := 0 } : Room)).room s m [.ref (q 0), .int (iI x1), .int (iI x2)].toArray below meth c H locs 0 0 Q (F0 m 0 ls []) by
    have := hgo [] hS
    rw [hHe] at this
    exact this
  clear hS hHe
  intro locs hS
  have hI0 := hI
  refine lv_aload_n hx hb dX12_add_0 rfl (lv_at hl 0 rfl) ?_
  refine va_get (D := (dC, dI)) (ci := 12) (v := .ref (q 33)) (C := RX12) (T := TX12) (N := 85) hx hb hts hiX12 hown hK hP 0 wm0 rfl 44 (by decide) (hts _ (List.mem_cons_of_mem _ (wl_in_1 _ (List.mem_of_getElem? (i := 30) rfl)))) (fun _ h9 => h9) rfl dX12_add_1 ?_
  refine lv_sipush (v := iI 1600) hx hb dX12_add_4 (by decide +kernel) ?_
  refine lv_aload_n hx hb dX12_add_7 rfl (lv_at hl 0 rfl) ?_
  refine va_get (D := (dC, dI)) (ci := 12) (v := .int (iI (A 0 47))) (C := RX12) (T := TX12) (N := 85) hx hb hts hiX12 hown hK hP 0 wm0 rfl 47 (by decide) (hts _ (List.mem_cons_of_mem _ (wl_in_1 _ (List.mem_of_getElem? (i := 12) rfl)))) (fun _ h9 => h9) rfl dX12_add_8 ?_
  have r_A_0_47 : (0 : Int) ≤ (A 0 47) ∧ (A 0 47) ≤ 1 := hI 0 47
  refine x_mulv (v := 1600 * (A 0 47)) hx hb dX12_add_11 (by omega) ?_
  refine lv_aload_n hx hb dX12_add_12 rfl (lv_at hl 0 rfl) ?_
  refine va_get (D := (dC, dI)) (ci := 12) (v := .int (iI (A 0 46))) (C := RX12) (T := TX12) (N := 85) hx hb hts hiX12 hown hK hP 0 wm0 rfl 46 (by decide) (hts _ (List.mem_cons_of_mem _ (wl_in_1 _ (List.mem_of_getElem? (i := 31) rfl)))) (fun _ h9 => h9) rfl dX12_add_13 ?_
  have r_A_0_46 : (0 : Int) ≤ (A 0 46) ∧ (A 0 46) ≤ 1600 := hI 0 46
  refine x_addv (v := 1600 * (A 0 47) + (A 0 46)) hx hb dX12_add_16 (by omega) ?_
  refine lv_iload_n hx hb dX12_add_17 rfl (lv_at hl 1 rfl) ?_
  refine x_iast hx hb hK hP hDD hS 33 1 wm33 rfl (by omega) (by decide) dX12_add_18 ws33 (fun H locs hP hS => ?_)
  have hI := hI.st (j := 33) (i := (1600 * (A 0 47) + (A 0 46)).toNat) (v := x1) (show (0 : Int) ≤ x1 ∧ x1 ≤ 22 from (by omega))
  refine lv_aload_n hx hb dX12_add_19 rfl (lv_at hl 0 rfl) ?_
  refine va_get (D := (dC, dI)) (ci := 12) (v := .ref (q 34)) (C := RX12) (T := TX12) (N := 85) hx hb hts hiX12 hown hK hP 0 wm0 rfl 45 (by decide) (hts _ (List.mem_cons_of_mem _ (wl_in_1 _ (List.mem_of_getElem? (i := 32) rfl)))) (fun _ h9 => h9) rfl dX12_add_20 ?_
  refine lv_sipush (v := iI 1600) hx hb dX12_add_23 (by decide +kernel) ?_
  refine lv_aload_n hx hb dX12_add_26 rfl (lv_at hl 0 rfl) ?_
  refine va_get (D := (dC, dI)) (ci := 12) (v := .int (iI (A 0 47))) (C := RX12) (T := TX12) (N := 85) hx hb hts hiX12 hown hK hP 0 wm0 rfl 47 (by decide) (hts _ (List.mem_cons_of_mem _ (wl_in_1 _ (List.mem_of_getElem? (i := 12) rfl)))) (fun _ h9 => h9) rfl dX12_add_27 ?_
  refine x_mulv (v := 1600 * (A 0 47)) hx hb dX12_add_30 (by omega) ?_
  refine lv_aload_n hx hb dX12_add_31 rfl (lv_at hl 0 rfl) ?_
  refine va_get (D := (dC, dI)) (ci := 12) (v := .int (iI (A 0 46))) (C := RX12) (T := TX12) (N := 85) hx hb hts hiX12 hown hK hP 0 wm0 rfl 46 (by decide) (hts _ (List.mem_cons_of_mem _ (wl_in_1 _ (List.mem_of_getElem? (i := 31) rfl)))) (fun _ h9 => h9) rfl dX12_add_32 ?_
  refine x_addv (v := 1600 * (A 0 47) + (A 0 46)) hx hb dX12_add_35 (by omega) ?_
  refine lv_iload_n hx hb dX12_add_36 rfl (lv_at hl 2 rfl) ?_
  refine x_iast hx hb hK hP hDD hS 34 1 wm34 rfl (by omega) (by decide) dX12_add_37 ws34 (fun H locs hP hS => ?_)
  have hI := hI.st (j := 34) (i := (1600 * (A 0 47) + (A 0 46)).toNat) (v := x2) (show (-2147483648 : Int) ≤ x2 ∧ x2 ≤ 2147483647 from (by omega))
  refine lv_aload_n hx hb dX12_add_38 rfl (lv_at hl 0 rfl) ?_
  refine lv_dup hx hb dX12_add_39 rfl ?_
  refine va_get (D := (dC, dI)) (ci := 12) (v := .int (iI (A 0 46))) (C := RX12) (T := TX12) (N := 85) hx hb hts hiX12 hown hK hP 0 wm0 rfl 46 (by decide) (hts _ (List.mem_cons_of_mem _ (wl_in_1 _ (List.mem_of_getElem? (i := 31) rfl)))) (fun _ h9 => h9) rfl dX12_add_40 ?_
  refine lv_iconst (v := iI 1) hx hb dX12_add_43 (by decide +kernel) ?_
  refine x_addv (v := (A 0 46) + 1) hx hb dX12_add_44 (by omega) ?_
  refine x_put (D := (dC, dI)) (ci := 12) (v := .int (iI ((A 0 46) + 1))) (ty := .int) (C := RX12) (T := TX12) (N := 85) hx hb hts hiX12 tyX12 tyX12_ok nmX12 hown hK hP hDD hS 0 wm0 rfl 46 (by decide) (hts _ (List.mem_cons_of_mem _ (wl_in_1 _ (List.mem_of_getElem? (i := 31) rfl)))) (fun _ h9 => h9) rfl (by decide +kernel) rfl rfl (Nat.le_of_ble_eq_true rfl) dX12_add_45 (wf46 (v := (A 0 46) + 1)) (fun H locs hP hS => ?_)
  have hI := hI.st (j := 0) (i := 46) (v := (A 0 46) + 1) (show (0 : Int) ≤ (A 0 46) + 1 ∧ (A 0 46) + 1 ≤ 1600 from (by omega))
  obtain ⟨A1, hA1⟩ : ∃ A1 : St, A1 = (stA (stA (stA A 33 (1600 * (A 0 47) + (A 0 46)).toNat x1) 34 (1600 * (A 0 47) + (A 0 46)).toNat x2) 0 46 ((A 0 46) + 1)) := ⟨_, rfl⟩
  rw [← hA1] at hP hI
  have e_A1_46 : A1 0 46 = (A 0 46) + 1 := by rw [hA1]; rfl
  exact RET _ _ _ _ _ ⟨(u_r_X12_add ⟨A1, hA1, rfl⟩), hI, fr_def hA1 (fr.sf (fr.st (fr.st (fr.rf) (by decide) rfl) (by decide) rfl) rfl), (CI.add hcCI hI0 (by rw [hA1]; rfl) (by rw [hA1]; rfl) (by rw [hA1]; rfl) (x := x1) (by rw [hA1]; rfl) (by rw [hA1]; rfl) (by rw [hA1]; rfl) hp0), ⟨by omega, by rw [hA1]; rfl⟩⟩ hP hS dX12_add_48

abbrev tr_r_X12_holdsBack (x1 : Int) (A : St) (u : St) : Prop := (∃ A1 : St, A1 = (stA (stA A 40 ((A 0 56)).toNat x1) 0 56 ((A 0 56) + 1)) ∧ (u = A1))
def r_X12_holdsBack (x1 : Int) (A : St) (u : St) : Prop := tr_r_X12_holdsBack x1 A u
theorem u_r_X12_holdsBack {x1 : Int} {A : St} {u : St} (h : tr_r_X12_holdsBack x1 A u) : r_X12_holdsBack x1 A u := h
def q_X12_holdsBack (x1 : Int) (A : St) (u : St) : Prop := r_X12_holdsBack x1 A u ∧ IM u ∧ fr [40] [56] A u ∧ (u 0 56 = A 0 56 + 1 ∧ u 40 = up (A 40) (A 0 56).toNat x1)
def ws_mb_X12_holdsBack : List Cond := .code yX12_holdsBack cX12_holdsBack 2 none :: WX
set_option maxHeartbeats 4000000 in
set_option maxRecDepth 100000 in
theorem mb_X12_holdsBack (l : Launch) (dC : Nat → ClassId) (dI : Nat → Nat → Nat) (cB cI cJ cZ cQ : ClassId) (q : Nat → Nat) (A : St) (x1 : Int) (hI : IM A) (hx1 : (0 : Int) ≤ x1 ∧ x1 ≤ 22) (hp0 : A 0 56 < 500) : XMv l yX12_holdsBack ws_mb_X12_holdsBack ({ frames := 0, cells := 0, slots := 0, locals := 0 } : Room) (dC, dI) (tyA cB cI cJ cZ cQ) (WM cI cJ cZ q) A [.ref (q 0), .int (iI x1)] (fun u => r_X12_holdsBack x1 A u ∧ IM u ∧ fr [40] [56] A u ∧ (u 0 56 = A 0 56 + 1 ∧ u 40 = up (A 40) (A 0 56).toNat x1)) := by
  refine x_metv (cc := cX12_holdsBack) (maxL := 2) WM_adr (by decide +kernel) rfl (Nat.le_of_ble_eq_true rfl) (fun p e s m below meth c Q AS ls hx hb hml hown hts hK hDD hA0 hP hS hl RET => ?_)
  have hown : s.vm.findClass RX12 = some m.cls := hown
  have hl : lv_has ls 2 [(0, .ref (q 0)), (1, .int (iI x1))] := hl
  have hiX12 : ∀ w ∈ u_ws RX12 TX12 85, w ∈ ws_mb_X12_holdsBack := fun w h => List.mem_cons_of_mem _ (wx_lay w h)
  obtain ⟨H, hHe⟩ : ∃ H : Heap, H = s.heap := ⟨_, rfl⟩
  rw [← hHe] at hP
  have hS : va_S AS s.heap H [] := by rw [hHe]; exact hS
  suffices hgo : ∀ locs : List Loc, va_S AS s.heap H locs → W p l e (headSpec ws_mb_X12_holdsBack ({ frames := 0, cells := 0, slots := 0, locals := 0 } : Room)).room s m [.ref (q 0), .int (iI x1)].toArray below meth c H locs 0 0 Q (F0 m 0 ls []) by
    have := hgo [] hS
    rw [hHe] at this
    exact this
  clear hS hHe
  intro locs hS
  refine lv_aload_n hx hb dX12_holdsBack_0 rfl (lv_at hl 0 rfl) ?_
  refine va_get (D := (dC, dI)) (ci := 12) (v := .ref (q 40)) (C := RX12) (T := TX12) (N := 85) hx hb hts hiX12 hown hK hP 0 wm0 rfl 55 (by decide) (hts _ (List.mem_cons_of_mem _ (wl_in_1 _ (List.mem_of_getElem? (i := 38) rfl)))) (fun _ h9 => h9) rfl dX12_holdsBack_1 ?_
  refine lv_aload_n hx hb dX12_holdsBack_4 rfl (lv_at hl 0 rfl) ?_
  refine va_get (D := (dC, dI)) (ci := 12) (v := .int (iI (A 0 56))) (C := RX12) (T := TX12) (N := 85) hx hb hts hiX12 hown hK hP 0 wm0 rfl 56 (by decide) (hts _ (List.mem_cons_of_mem _ (wl_in_1 _ (List.mem_of_getElem? (i := 35) rfl)))) (fun _ h9 => h9) rfl dX12_holdsBack_5 ?_
  have r_A_0_56 : (0 : Int) ≤ (A 0 56) ∧ (A 0 56) ≤ 500 := hI 0 56
  refine lv_iload_n hx hb dX12_holdsBack_8 rfl (lv_at hl 1 rfl) ?_
  refine x_iast hx hb hK hP hDD hS 40 1 wm40 rfl (by omega) (by decide) dX12_holdsBack_9 ws40 (fun H locs hP hS => ?_)
  have hI := hI.st (j := 40) (i := ((A 0 56)).toNat) (v := x1) (show (0 : Int) ≤ x1 ∧ x1 ≤ 22 from (by omega))
  refine lv_aload_n hx hb dX12_holdsBack_10 rfl (lv_at hl 0 rfl) ?_
  refine lv_dup hx hb dX12_holdsBack_11 rfl ?_
  refine va_get (D := (dC, dI)) (ci := 12) (v := .int (iI (A 0 56))) (C := RX12) (T := TX12) (N := 85) hx hb hts hiX12 hown hK hP 0 wm0 rfl 56 (by decide) (hts _ (List.mem_cons_of_mem _ (wl_in_1 _ (List.mem_of_getElem? (i := 35) rfl)))) (fun _ h9 => h9) rfl dX12_holdsBack_12 ?_
  refine lv_iconst (v := iI 1) hx hb dX12_holdsBack_15 (by decide +kernel) ?_
  refine x_addv (v := (A 0 56) + 1) hx hb dX12_holdsBack_16 (by omega) ?_
  refine x_put (D := (dC, dI)) (ci := 12) (v := .int (iI ((A 0 56) + 1))) (ty := .int) (C := RX12) (T := TX12) (N := 85) hx hb hts hiX12 tyX12 tyX12_ok nmX12 hown hK hP hDD hS 0 wm0 rfl 56 (by decide) (hts _ (List.mem_cons_of_mem _ (wl_in_1 _ (List.mem_of_getElem? (i := 35) rfl)))) (fun _ h9 => h9) rfl (by decide +kernel) rfl rfl (Nat.le_of_ble_eq_true rfl) dX12_holdsBack_17 (wf56 (v := (A 0 56) + 1)) (fun H locs hP hS => ?_)
  have hI := hI.st (j := 0) (i := 56) (v := (A 0 56) + 1) (show (0 : Int) ≤ (A 0 56) + 1 ∧ (A 0 56) + 1 ≤ 500 from (by omega))
  obtain ⟨A1, hA1⟩ : ∃ A1 : St, A1 = (stA (stA A 40 ((A 0 56)).toNat x1) 0 56 ((A 0 56) + 1)) := ⟨_, rfl⟩
  rw [← hA1] at hP hI
  have e_A1_56 : A1 0 56 = (A 0 56) + 1 := by rw [hA1]; rfl
  exact RET _ _ _ _ _ ⟨(u_r_X12_holdsBack ⟨A1, hA1, rfl⟩), hI, fr_def hA1 (fr.sf (fr.st (fr.rf) (by decide) rfl) rfl), ⟨by omega, by rw [hA1]; rfl⟩⟩ hP hS dX12_holdsBack_20

abbrev tr_r_X12_pushes (x1 : Int) (A : St) (u : St) : Prop := (∃ A1 : St, A1 = (stA (stA (stA (stA (stA A 35 ((A 0 53)).toNat x1) 36 ((A 0 53)).toNat 0) 37 ((A 0 53)).toNat 1) 39 ((A 0 53)).toNat (A 0 56)) 0 53 ((A 0 53) + 1)) ∧ (u = A1))
def r_X12_pushes (x1 : Int) (A : St) (u : St) : Prop := tr_r_X12_pushes x1 A u
theorem u_r_X12_pushes {x1 : Int} {A : St} {u : St} (h : tr_r_X12_pushes x1 A u) : r_X12_pushes x1 A u := h
def q_X12_pushes (x1 : Int) (A : St) (u : St) : Prop := r_X12_pushes x1 A u ∧ IM u ∧ fr [35, 36, 37, 39] [53] A u ∧ (u 0 53 = A 0 53 + 1 ∧ u 35 = up (A 35) (A 0 53).toNat x1 ∧ u 37 = up (A 37) (A 0 53).toNat 1 ∧ u 39 = up (A 39) (A 0 53).toNat (A 0 56) ∧ u 36 = up (A 36) (A 0 53).toNat 0)
def ws_mb_X12_pushes : List Cond := .code yX12_pushes cX12_pushes 2 none :: WX
set_option maxHeartbeats 4000000 in
set_option maxRecDepth 100000 in
theorem mb_X12_pushes (l : Launch) (dC : Nat → ClassId) (dI : Nat → Nat → Nat) (cB cI cJ cZ cQ : ClassId) (q : Nat → Nat) (A : St) (x1 : Int) (hI : IM A) (hx1 : (0 : Int) ≤ x1 ∧ x1 ≤ 5) (hp0 : A 0 53 < 20) : XMv l yX12_pushes ws_mb_X12_pushes ({ frames := 0, cells := 0, slots := 0, locals := 0 } : Room) (dC, dI) (tyA cB cI cJ cZ cQ) (WM cI cJ cZ q) A [.ref (q 0), .int (iI x1)] (fun u => r_X12_pushes x1 A u ∧ IM u ∧ fr [35, 36, 37, 39] [53] A u ∧ (u 0 53 = A 0 53 + 1 ∧ u 35 = up (A 35) (A 0 53).toNat x1 ∧ u 37 = up (A 37) (A 0 53).toNat 1 ∧ u 39 = up (A 39) (A 0 53).toNat (A 0 56) ∧ u 36 = up (A 36) (A 0 53).toNat 0)) := by
  refine x_metv (cc := cX12_pushes) (maxL := 2) WM_adr (by decide +kernel) rfl (Nat.le_of_ble_eq_true rfl) (fun p e s m below meth c Q AS ls hx hb hml hown hts hK hDD hA0 hP hS hl RET => ?_)
  have hown : s.vm.findClass RX12 = some m.cls := hown
  have hl : lv_has ls 2 [(0, .ref (q 0)), (1, .int (iI x1))] := hl
  have hiX12 : ∀ w ∈ u_ws RX12 TX12 85, w ∈ ws_mb_X12_pushes := fun w h => List.mem_cons_of_mem _ (wx_lay w h)
  obtain ⟨H, hHe⟩ : ∃ H : Heap, H = s.heap := ⟨_, rfl⟩
  rw [← hHe] at hP
  have hS : va_S AS s.heap H [] := by rw [hHe]; exact hS
  suffices hgo : ∀ locs : List Loc, va_S AS s.heap H locs → W p l e (headSpec ws_mb_X12_pushes ({ frames := 0, cells := 0, slots := 0, locals := 0 } : Room)).room s m [.ref (q 0), .int (iI x1)].toArray below meth c H locs 0 0 Q (F0 m 0 ls []) by
    have := hgo [] hS
    rw [hHe] at this
    exact this
  clear hS hHe
  intro locs hS
  refine lv_aload_n hx hb dX12_pushes_0 rfl (lv_at hl 0 rfl) ?_
  refine va_get (D := (dC, dI)) (ci := 12) (v := .ref (q 35)) (C := RX12) (T := TX12) (N := 85) hx hb hts hiX12 hown hK hP 0 wm0 rfl 48 (by decide) (hts _ (List.mem_cons_of_mem _ (wl_in_1 _ (List.mem_of_getElem? (i := 46) rfl)))) (fun _ h9 => h9) rfl dX12_pushes_1 ?_
  refine lv_aload_n hx hb dX12_pushes_4 rfl (lv_at hl 0 rfl) ?_
  refine va_get (D := (dC, dI)) (ci := 12) (v := .int (iI (A 0 53))) (C := RX12) (T := TX12) (N := 85) hx hb hts hiX12 hown hK hP 0 wm0 rfl 53 (by decide) (hts _ (List.mem_cons_of_mem _ (wl_in_1 _ (List.mem_of_getElem? (i := 37) rfl)))) (fun _ h9 => h9) rfl dX12_pushes_5 ?_
  have r_A_0_53 : (0 : Int) ≤ (A 0 53) ∧ (A 0 53) ≤ 20 := hI 0 53
  refine lv_iload_n hx hb dX12_pushes_8 rfl (lv_at hl 1 rfl) ?_
  refine x_iast hx hb hK hP hDD hS 35 1 wm35 rfl (by omega) (by decide) dX12_pushes_9 ws35 (fun H locs hP hS => ?_)
  have hI := hI.st (j := 35) (i := ((A 0 53)).toNat) (v := x1) (show (0 : Int) ≤ x1 ∧ x1 ≤ 5 from (by omega))
  refine lv_aload_n hx hb dX12_pushes_10 rfl (lv_at hl 0 rfl) ?_
  refine va_get (D := (dC, dI)) (ci := 12) (v := .ref (q 36)) (C := RX12) (T := TX12) (N := 85) hx hb hts hiX12 hown hK hP 0 wm0 rfl 49 (by decide) (hts _ (List.mem_cons_of_mem _ (wl_in_1 _ (List.mem_of_getElem? (i := 47) rfl)))) (fun _ h9 => h9) rfl dX12_pushes_11 ?_
  refine lv_aload_n hx hb dX12_pushes_14 rfl (lv_at hl 0 rfl) ?_
  refine va_get (D := (dC, dI)) (ci := 12) (v := .int (iI (A 0 53))) (C := RX12) (T := TX12) (N := 85) hx hb hts hiX12 hown hK hP 0 wm0 rfl 53 (by decide) (hts _ (List.mem_cons_of_mem _ (wl_in_1 _ (List.mem_of_getElem? (i := 37) rfl)))) (fun _ h9 => h9) rfl dX12_pushes_15 ?_
  refine lv_iconst (v := iI 0) hx hb dX12_pushes_18 (by decide +kernel) ?_
  refine x_iast hx hb hK hP hDD hS 36 1 wm36 rfl (by omega) (by decide) dX12_pushes_19 ws36 (fun H locs hP hS => ?_)
  have hI := hI.st (j := 36) (i := ((A 0 53)).toNat) (v := 0) (show (0 : Int) ≤ 0 ∧ 0 ≤ 2 from (by omega))
  refine lv_aload_n hx hb dX12_pushes_20 rfl (lv_at hl 0 rfl) ?_
  refine va_get (D := (dC, dI)) (ci := 12) (v := .ref (q 37)) (C := RX12) (T := TX12) (N := 85) hx hb hts hiX12 hown hK hP 0 wm0 rfl 50 (by decide) (hts _ (List.mem_cons_of_mem _ (wl_in_1 _ (List.mem_of_getElem? (i := 48) rfl)))) (fun _ h9 => h9) rfl dX12_pushes_21 ?_
  refine lv_aload_n hx hb dX12_pushes_24 rfl (lv_at hl 0 rfl) ?_
  refine va_get (D := (dC, dI)) (ci := 12) (v := .int (iI (A 0 53))) (C := RX12) (T := TX12) (N := 85) hx hb hts hiX12 hown hK hP 0 wm0 rfl 53 (by decide) (hts _ (List.mem_cons_of_mem _ (wl_in_1 _ (List.mem_of_getElem? (i := 37) rfl)))) (fun _ h9 => h9) rfl dX12_pushes_25 ?_
  refine lv_iconst (v := iI 1) hx hb dX12_pushes_28 (by decide +kernel) ?_
  refine x_zast hx hb hK hP hDD hS 37 3 wm37 rfl (by omega) (by decide) dX12_pushes_29 (by omega) ws37 (fun H locs hP hS => ?_)
  have hI := hI.st (j := 37) (i := ((A 0 53)).toNat) (v := 1) (show (0 : Int) ≤ 1 ∧ 1 ≤ 1 from (by omega))
  refine lv_aload_n hx hb dX12_pushes_30 rfl (lv_at hl 0 rfl) ?_
  refine va_get (D := (dC, dI)) (ci := 12) (v := .ref (q 39)) (C := RX12) (T := TX12) (N := 85) hx hb hts hiX12 hown hK hP 0 wm0 rfl 52 (by decide) (hts _ (List.mem_cons_of_mem _ (wl_in_1 _ (List.mem_of_getElem? (i := 36) rfl)))) (fun _ h9 => h9) rfl dX12_pushes_31 ?_
  refine lv_aload_n hx hb dX12_pushes_34 rfl (lv_at hl 0 rfl) ?_
  refine va_get (D := (dC, dI)) (ci := 12) (v := .int (iI (A 0 53))) (C := RX12) (T := TX12) (N := 85) hx hb hts hiX12 hown hK hP 0 wm0 rfl 53 (by decide) (hts _ (List.mem_cons_of_mem _ (wl_in_1 _ (List.mem_of_getElem? (i := 37) rfl)))) (fun _ h9 => h9) rfl dX12_pushes_35 ?_
  refine lv_aload_n hx hb dX12_pushes_38 rfl (lv_at hl 0 rfl) ?_
  refine va_get (D := (dC, dI)) (ci := 12) (v := .int (iI (A 0 56))) (C := RX12) (T := TX12) (N := 85) hx hb hts hiX12 hown hK hP 0 wm0 rfl 56 (by decide) (hts _ (List.mem_cons_of_mem _ (wl_in_1 _ (List.mem_of_getElem? (i := 35) rfl)))) (fun _ h9 => h9) rfl dX12_pushes_39 ?_
  have r_A_0_56 : (0 : Int) ≤ (A 0 56) ∧ (A 0 56) ≤ 500 := hI 0 56
  refine x_iast hx hb hK hP hDD hS 39 1 wm39 rfl (by omega) (by decide) dX12_pushes_42 ws39 (fun H locs hP hS => ?_)
  have hI := hI.st (j := 39) (i := ((A 0 53)).toNat) (v := (A 0 56)) (show (0 : Int) ≤ (A 0 56) ∧ (A 0 56) ≤ 500 from (by omega))
  refine lv_aload_n hx hb dX12_pushes_43 rfl (lv_at hl 0 rfl) ?_
  refine lv_dup hx hb dX12_pushes_44 rfl ?_
  refine va_get (D := (dC, dI)) (ci := 12) (v := .int (iI (A 0 53))) (C := RX12) (T := TX12) (N := 85) hx hb hts hiX12 hown hK hP 0 wm0 rfl 53 (by decide) (hts _ (List.mem_cons_of_mem _ (wl_in_1 _ (List.mem_of_getElem? (i := 37) rfl)))) (fun _ h9 => h9) rfl dX12_pushes_45 ?_
  refine lv_iconst (v := iI 1) hx hb dX12_pushes_48 (by decide +kernel) ?_
  refine x_addv (v := (A 0 53) + 1) hx hb dX12_pushes_49 (by omega) ?_
  refine x_put (D := (dC, dI)) (ci := 12) (v := .int (iI ((A 0 53) + 1))) (ty := .int) (C := RX12) (T := TX12) (N := 85) hx hb hts hiX12 tyX12 tyX12_ok nmX12 hown hK hP hDD hS 0 wm0 rfl 53 (by decide) (hts _ (List.mem_cons_of_mem _ (wl_in_1 _ (List.mem_of_getElem? (i := 37) rfl)))) (fun _ h9 => h9) rfl (by decide +kernel) rfl rfl (Nat.le_of_ble_eq_true rfl) dX12_pushes_50 (wf53 (v := (A 0 53) + 1)) (fun H locs hP hS => ?_)
  have hI := hI.st (j := 0) (i := 53) (v := (A 0 53) + 1) (show (0 : Int) ≤ (A 0 53) + 1 ∧ (A 0 53) + 1 ≤ 20 from (by omega))
  obtain ⟨A1, hA1⟩ : ∃ A1 : St, A1 = (stA (stA (stA (stA (stA A 35 ((A 0 53)).toNat x1) 36 ((A 0 53)).toNat 0) 37 ((A 0 53)).toNat 1) 39 ((A 0 53)).toNat (A 0 56)) 0 53 ((A 0 53) + 1)) := ⟨_, rfl⟩
  rw [← hA1] at hP hI
  have e_A1_53 : A1 0 53 = (A 0 53) + 1 := by rw [hA1]; rfl
  exact RET _ _ _ _ _ ⟨(u_r_X12_pushes ⟨A1, hA1, rfl⟩), hI, fr_def hA1 (fr.sf (fr.st (fr.st (fr.st (fr.st (fr.rf) (by decide) rfl) (by decide) rfl) (by decide) rfl) (by decide) rfl) rfl), ⟨by omega, by rw [hA1]; rfl, by rw [hA1]; rfl, by rw [hA1]; rfl, by rw [hA1]; rfl⟩⟩ hP hS dX12_pushes_53

abbrev tr_d_X12_joins_1 (x1 : Int) (A : St) (u : St) (K1 : St → Prop) (A2 : St) : Prop := ((IM A2) ∧ (∃ z10 : Int, z10 = A2 39 ((A 0 53) - 1).toNat ∧ ((((A2 0 56) ≤ z10) ∧ (u = A2)) ∨ ((¬ (A2 0 56) ≤ z10) ∧ (∃ z14 : Int, z14 = A2 40 ((A2 0 56) - 1).toNat ∧ (∃ z15 : Int, q_X12_rank z14 A2 z15 ∧ (((z15 < x1) ∧ (u = A2)) ∨ ((¬ z15 < x1) ∧ (∃ z21 : Int, z21 = (stA A2 0 56 ((A2 0 56) - 1)) 40 ((A2 0 56) - 1).toNat ∧ (∃ A22 : St, A22 = (stA A2 0 56 ((A2 0 56) - 1)) ∧ (∃ A23 : St, q_X12_add z21 0 A22 A23 ∧ (K1 A23))))))))))))
def d_X12_joins_1 (x1 : Int) (A : St) (u : St) : Nat → St → Prop
  | 0, _ => False
  | nn9 + 1, A2 => tr_d_X12_joins_1 x1 A u (fun A2 => d_X12_joins_1 x1 A u nn9 A2) A2
theorem u_d_X12_joins_1 {x1 : Int} {A : St} {u : St} {nn9 : Nat} {A2 : St} (h : tr_d_X12_joins_1 x1 A u (fun A2 => d_X12_joins_1 x1 A u nn9 A2) A2) : d_X12_joins_1 x1 A u (nn9 + 1) A2 := h
abbrev tr_r_X12_joins (x1 : Int) (A : St) (u : St) : Prop := (∃ nn9 : Nat, d_X12_joins_1 x1 A u nn9 A)
def r_X12_joins (x1 : Int) (A : St) (u : St) : Prop := tr_r_X12_joins x1 A u
theorem u_r_X12_joins {x1 : Int} {A : St} {u : St} (h : tr_r_X12_joins x1 A u) : r_X12_joins x1 A u := h
def q_X12_joins (x1 : Int) (A : St) (u : St) : Prop := r_X12_joins x1 A u ∧ IM u ∧ fr [33, 34] [46, 56] A u ∧ CI u ∧ SP u ∧ (RI 1 u ∧ (u 0 56 = u 39 (u 0 53 - 1).toNat ∨ rk (u 40 (u 0 56 - 1).toNat) < x1))
def ws_mb_X12_joins : List Cond := .code yX12_joins cX12_joins 2 none :: WX
set_option maxHeartbeats 4000000 in
set_option maxRecDepth 100000 in
theorem mb_X12_joins (l : Launch) (dC : Nat → ClassId) (dI : Nat → Nat → Nat) (cB cI cJ cZ cQ : ClassId) (q : Nat → Nat) (A : St) (x1 : Int) (hI : IM A) (hx1 : (1 : Int) ≤ x1 ∧ x1 ≤ 6) (hp0 : RI 1 A) (hcCI : CI A) (hcSP : SP A) : XMv l yX12_joins ws_mb_X12_joins ({ frames := 1, cells := 0, slots := 0, locals := 22 } : Room) (dC, dI) (tyA cB cI cJ cZ cQ) (WM cI cJ cZ q) A [.ref (q 0), .int (iI x1)] (fun u => r_X12_joins x1 A u ∧ IM u ∧ fr [33, 34] [46, 56] A u ∧ CI u ∧ SP u ∧ (RI 1 u ∧ (u 0 56 = u 39 (u 0 53 - 1).toNat ∨ rk (u 40 (u 0 56 - 1).toNat) < x1))) := by
  refine x_metv (cc := cX12_joins) (maxL := 2) WM_adr (by decide +kernel) rfl (Nat.le_of_ble_eq_true rfl) (fun p e s m below meth c Q AS ls hx hb hml hown hts hK hDD hA0 hP hS hl RET => ?_)
  have hown : s.vm.findClass RX12 = some m.cls := hown
  have hl : lv_has ls 2 [(0, .ref (q 0)), (1, .int (iI x1))] := hl
  have hiX12 : ∀ w ∈ u_ws RX12 TX12 85, w ∈ ws_mb_X12_joins := fun w h => List.mem_cons_of_mem _ (wx_lay w h)
  obtain ⟨H, hHe⟩ : ∃ H : Heap, H = s.heap := ⟨_, rfl⟩
  rw [← hHe] at hP
  have hS : va_S AS s.heap H [] := by rw [hHe]; exact hS
  suffices hgo : ∀ locs : List Loc, va_S AS s.heap H locs → W p l e (headSpec ws_mb_X12_joins ({ frames := 1, cells := 0, slots := 0, locals := 22 } : Room)).room s m [.ref (q 0), .int (iI x1)].toArray below meth c H locs 0 0 Q (F0 m 0 ls []) by
    have := hgo [] hS
    rw [hHe] at this
    exact this
  clear hS hHe
  intro locs hS
  have r_A_0_56 : (0 : Int) ≤ (A 0 56) ∧ (A 0 56) ≤ 500 := hI 0 56
  have L0_3 : ∀ (n5 : Nat) (A2 : St) (H : Heap) (locs : List Loc) (ls : Array Slot), (Hd (RI 1 A2)) → (CI A2) → (SP A2) → (∀ (u : St), (∃ mm1 : Nat, (d_X12_joins_1 x1 A u mm1 A2)) → r_X12_joins x1 A u) → ((A2 0 56).toNat = n5) → IM A2 → fr [33, 34] [46, 56] A A2 → va_P (dC, dI) vwCl (WM cI cJ cZ q A2) H → va_S AS s.heap H locs → lv_has ls 2 [(0, .ref (q 0)), (1, .int (iI x1))] → W p l e (headSpec ws_mb_X12_joins ({ frames := 1, cells := 0, slots := 0, locals := 22 } : Room)).room s m [.ref (q 0), .int (iI x1)].toArray below meth c H locs 0 0 Q (F0 m 0 ls []) := by
    intro n5
    induction n5 using Nat.strongRecOn with
    | ind n5 ih4 =>
      intro A2 H locs ls f6 hc7 hc8 hk1 hn5 hI hj1 hP hS hl
      have gI9 : Hd (IM A2) := Hd.mk hI
      have r_A2_0_56 : (0 : Int) ≤ (A2 0 56) ∧ (A2 0 56) ≤ 500 := hI 0 56
      have hIb := hI
      have hri := f6.out
      have hdp := RI.deep hri hIb
      have hrm := RI.room hri hIb
      have e_A2_3 : A2 0 3 = (A 0 3) := (hj1.2 3 rfl)
      have e_A2_4 : A2 0 4 = (A 0 4) := (hj1.2 4 rfl)
      have e_A2_5 : A2 0 5 = (A 0 5) := (hj1.2 5 rfl)
      have e_A2_7 : A2 0 7 = (A 0 7) := (hj1.2 7 rfl)
      have e_A2_8 : A2 0 8 = (A 0 8) := (hj1.2 8 rfl)
      have e_A2_47 : A2 0 47 = (A 0 47) := (hj1.2 47 rfl)
      have e_A2_53 : A2 0 53 = (A 0 53) := (hj1.2 53 rfl)
      have e_A2_54 : A2 0 54 = (A 0 54) := (hj1.2 54 rfl)
      have r_A_0_3 : (0 : Int) ≤ (A 0 3) ∧ (A 0 3) ≤ 3 := by rw [← e_A2_3]; exact hI 0 3
      have r_A_0_4 : (0 : Int) ≤ (A 0 4) ∧ (A 0 4) ≤ 1600 := by rw [← e_A2_4]; exact hI 0 4
      have r_A_0_5 : (0 : Int) ≤ (A 0 5) ∧ (A 0 5) ≤ 1600 := by rw [← e_A2_5]; exact hI 0 5
      have r_A_0_7 : (-9223372036854775808 : Int) ≤ (A 0 7) ∧ (A 0 7) ≤ 9223372036854775807 := by rw [← e_A2_7]; exact hI 0 7
      have r_A_0_8 : (0 : Int) ≤ (A 0 8) ∧ (A 0 8) ≤ 5 := by rw [← e_A2_8]; exact hI 0 8
      have r_A2_0_46 : (0 : Int) ≤ (A2 0 46) ∧ (A2 0 46) ≤ 1600 := hI 0 46
      have r_A_0_47 : (0 : Int) ≤ (A 0 47) ∧ (A 0 47) ≤ 1 := by rw [← e_A2_47]; exact hI 0 47
      have r_A_0_53 : (0 : Int) ≤ (A 0 53) ∧ (A 0 53) ≤ 20 := by rw [← e_A2_53]; exact hI 0 53
      have r_A_0_54 : (0 : Int) ≤ (A 0 54) ∧ (A 0 54) ≤ 8 := by rw [← e_A2_54]; exact hI 0 54
      refine lv_aload_n hx hb dX12_joins_0 rfl (lv_at hl 0 rfl) ?_
      refine va_get (D := (dC, dI)) (ci := 12) (v := .int (iI (A2 0 56))) (C := RX12) (T := TX12) (N := 85) hx hb hts hiX12 hown hK hP 0 wm0 rfl 56 (by decide) (hts _ (List.mem_cons_of_mem _ (wl_in_1 _ (List.mem_of_getElem? (i := 35) rfl)))) (fun _ h9 => h9) rfl dX12_joins_1 ?_
      refine lv_aload_n hx hb dX12_joins_4 rfl (lv_at hl 0 rfl) ?_
      refine va_get (D := (dC, dI)) (ci := 12) (v := .ref (q 39)) (C := RX12) (T := TX12) (N := 85) hx hb hts hiX12 hown hK hP 0 wm0 rfl 52 (by decide) (hts _ (List.mem_cons_of_mem _ (wl_in_1 _ (List.mem_of_getElem? (i := 36) rfl)))) (fun _ h9 => h9) rfl dX12_joins_5 ?_
      refine lv_aload_n hx hb dX12_joins_8 rfl (lv_at hl 0 rfl) ?_
      refine va_get (D := (dC, dI)) (ci := 12) (v := .int (iI (A2 0 53))) (C := RX12) (T := TX12) (N := 85) hx hb hts hiX12 hown hK hP 0 wm0 rfl 53 (by decide) (hts _ (List.mem_cons_of_mem _ (wl_in_1 _ (List.mem_of_getElem? (i := 37) rfl)))) (fun _ h9 => h9) rfl dX12_joins_9 ?_
      refine tp_i (y := iI (A 0 53)) (congrArg iI e_A2_53) ?_
      refine lv_iconst (v := iI 1) hx hb dX12_joins_12 (by decide +kernel) ?_
      refine x_subv (v := (A 0 53) - 1) hx hb dX12_joins_13 (by omega) ?_
      have a_A2_39 : A2 39 = A 39 := (hj1.1 39 (by decide) rfl)
      refine x_iald hx hb hK hP 39 1 wm39 rfl (by omega) (by decide) dX12_joins_14 (fun z10 hz10 => ?_)
      have rz10 : (0 : Int) ≤ z10 ∧ z10 ≤ 500 := by rw [hz10]; exact hI 39 _
      have gz10 := Hd.mk hz10
      have hz10 : z10 = A 39 ((A 0 53) - 1).toNat := hz10.trans (congrFun a_A2_39 _)
      refine lv_icmp_le (tgt := 63) hx hb dX12_joins_15 (by decide) (fun c11 => ?_) (fun c11 => ?_)
      · have c11 : (A2 0 56) ≤ z10 := (i_le (rb r_A2_0_56 (by decide) (by decide)) (rb rz10 (by decide) (by decide))).mp c11
        have ca12 : A2 39 = A 39 := (hj1.1 39 (by decide) rfl)
        have ca13 : A2 40 = A 40 := (hj1.1 40 (by decide) rfl)
        have hbs := RI.base hri
        rw [ca12, show A2 0 53 - 1 = (A 0 53) - 1 by omega] at hbs
        exact RET _ _ _ _ _ ⟨hk1 _ ⟨0 + 1, (u_d_X12_joins_1 ⟨gI9.out, ⟨z10, gz10.out, (Or.inl ⟨c11, rfl⟩)⟩⟩)⟩, hI, fr.trans (fr.rf) hj1 rfl rfl, hc7, hc8, ⟨hri, Or.inl (by rw [ca12, show A2 0 53 - 1 = (A 0 53) - 1 by omega]; omega)⟩⟩ hP hS dX12_joins_63
      · have c11 : ¬ (A2 0 56) ≤ z10 := mt (i_le (rb r_A2_0_56 (by decide) (by decide)) (rb rz10 (by decide) (by decide))).mpr c11
        refine lv_aload_n hx hb dX12_joins_18 rfl (lv_at hl 0 rfl) ?_
        refine va_get (D := (dC, dI)) (ci := 12) (v := .ref (q 40)) (C := RX12) (T := TX12) (N := 85) hx hb hts hiX12 hown hK hP 0 wm0 rfl 55 (by decide) (hts _ (List.mem_cons_of_mem _ (wl_in_1 _ (List.mem_of_getElem? (i := 38) rfl)))) (fun _ h9 => h9) rfl dX12_joins_19 ?_
        refine lv_aload_n hx hb dX12_joins_22 rfl (lv_at hl 0 rfl) ?_
        refine va_get (D := (dC, dI)) (ci := 12) (v := .int (iI (A2 0 56))) (C := RX12) (T := TX12) (N := 85) hx hb hts hiX12 hown hK hP 0 wm0 rfl 56 (by decide) (hts _ (List.mem_cons_of_mem _ (wl_in_1 _ (List.mem_of_getElem? (i := 35) rfl)))) (fun _ h9 => h9) rfl dX12_joins_23 ?_
        refine lv_iconst (v := iI 1) hx hb dX12_joins_26 (by decide +kernel) ?_
        refine x_subv (v := (A2 0 56) - 1) hx hb dX12_joins_27 (by omega) ?_
        have a_A2_40 : A2 40 = A 40 := (hj1.1 40 (by decide) rfl)
        refine x_iald hx hb hK hP 40 1 wm40 rfl (by omega) (by decide) dX12_joins_28 (fun z14 hz14 => ?_)
        have rz14 : (0 : Int) ≤ z14 ∧ z14 ≤ 22 := by rw [hz14]; exact hI 40 _
        have gz14 := Hd.mk hz14
        have hz14 : z14 = A 40 ((A2 0 56) - 1).toNat := hz14.trans (congrFun a_A2_40 _)
        refine x_callSi (As := [.int (iI z14)]) (rest := []) ⟨hx, hb, hml, hown, hts⟩ (mb_X12_rank l dC dI cB cI cJ cZ cQ q _ z14 hI (rb rz14 (by decide) (by decide))) (va_cwS 1 hts (goodS (wl_in_1 _ (List.mem_of_getElem? (i := 39) rfl)) (wl_in_1 _ (List.mem_of_getElem? (i := 40) rfl)) (wl_in_0 _ (List.mem_of_getElem? (i := 8) rfl)) (wl_in_1 _ (List.mem_of_getElem? (i := 33) rfl))) rfl rfl rfl (by decide +kernel) ⟨Nat.le_of_ble_eq_true rfl, Nat.le_of_ble_eq_true rfl⟩) hK hDD hA0 hP hS rfl hl.1 (Nat.le_of_ble_eq_true rfl) dX12_joins_29 (fun z15 A16 H locs hw17 hP hS => ?_)
        obtain ⟨rfl, hw17⟩ := hw17
        have ghw17 : q_X12_rank z14 A2 z15 := hw17
        have hw17 := hw17.2
        refine lv_iload_n hx hb dX12_joins_32 rfl (lv_at hl 1 rfl) ?_
        refine lv_icmp_lt (tgt := 63) hx hb dX12_joins_33 (by decide) (fun c18 => ?_) (fun c18 => ?_)
        · have c18 : z15 < x1 := (i_lt (by omega) (rb hx1 (by decide) (by decide))).mp c18
          have ca19 : A2 39 = A 39 := (hj1.1 39 (by decide) rfl)
          have ca20 : A2 40 = A 40 := (hj1.1 40 (by decide) rfl)
          exact RET _ _ _ _ _ ⟨hk1 _ ⟨0 + 1, (u_d_X12_joins_1 ⟨gI9.out, ⟨z10, gz10.out, (Or.inr ⟨c11, ⟨z14, gz14.out, ⟨z15, ghw17, (Or.inl ⟨c18, rfl⟩)⟩⟩⟩)⟩⟩)⟩, hI, fr.trans (fr.rf) hj1 rfl rfl, hc7, hc8, ⟨hri, Or.inr (by rw [ca20, ← hz14]; omega)⟩⟩ hP hS dX12_joins_63
        · have c18 : ¬ z15 < x1 := mt (i_lt (by omega) (rb hx1 (by decide) (by decide))).mpr c18
          refine lv_aload_n hx hb dX12_joins_36 rfl (lv_at hl 0 rfl) ?_
          refine lv_dup hx hb dX12_joins_37 rfl ?_
          refine va_get (D := (dC, dI)) (ci := 12) (v := .int (iI (A2 0 56))) (C := RX12) (T := TX12) (N := 85) hx hb hts hiX12 hown hK hP 0 wm0 rfl 56 (by decide) (hts _ (List.mem_cons_of_mem _ (wl_in_1 _ (List.mem_of_getElem? (i := 35) rfl)))) (fun _ h9 => h9) rfl dX12_joins_38 ?_
          refine lv_iconst (v := iI 1) hx hb dX12_joins_41 (by decide +kernel) ?_
          refine x_subv (v := (A2 0 56) - 1) hx hb dX12_joins_42 (by omega) ?_
          refine x_put (D := (dC, dI)) (ci := 12) (v := .int (iI ((A2 0 56) - 1))) (ty := .int) (C := RX12) (T := TX12) (N := 85) hx hb hts hiX12 tyX12 tyX12_ok nmX12 hown hK hP hDD hS 0 wm0 rfl 56 (by decide) (hts _ (List.mem_cons_of_mem _ (wl_in_1 _ (List.mem_of_getElem? (i := 35) rfl)))) (fun _ h9 => h9) rfl (by decide +kernel) rfl rfl (Nat.le_of_ble_eq_true rfl) dX12_joins_43 (wf56 (v := (A2 0 56) - 1)) (fun H locs hP hS => ?_)
          have hI := hI.st (j := 0) (i := 56) (v := (A2 0 56) - 1) (show (0 : Int) ≤ (A2 0 56) - 1 ∧ (A2 0 56) - 1 ≤ 500 from (by omega))
          refine lv_aload_n hx hb dX12_joins_46 rfl (lv_at hl 0 rfl) ?_
          refine lv_aload_n hx hb dX12_joins_47 rfl (lv_at hl 0 rfl) ?_
          refine va_get (D := (dC, dI)) (ci := 12) (v := .ref (q 40)) (C := RX12) (T := TX12) (N := 85) hx hb hts hiX12 hown hK hP 0 wm0 rfl 55 (by decide) (hts _ (List.mem_cons_of_mem _ (wl_in_1 _ (List.mem_of_getElem? (i := 38) rfl)))) (fun _ h9 => h9) rfl dX12_joins_48 ?_
          refine lv_aload_n hx hb dX12_joins_51 rfl (lv_at hl 0 rfl) ?_
          refine va_get (D := (dC, dI)) (ci := 12) (v := .int (iI ((A2 0 56) - 1))) (C := RX12) (T := TX12) (N := 85) hx hb hts hiX12 hown hK hP 0 wm0 rfl 56 (by decide) (hts _ (List.mem_cons_of_mem _ (wl_in_1 _ (List.mem_of_getElem? (i := 35) rfl)))) (fun _ h9 => h9) rfl dX12_joins_52 ?_
          refine x_iald hx hb hK hP 40 1 wm40 rfl (by omega) (by decide) dX12_joins_55 (fun z21 hz21 => ?_)
          have rz21 : (0 : Int) ≤ z21 ∧ z21 ≤ 22 := by rw [hz21]; exact hI 40 _
          have gz21 := Hd.mk hz21
          have hz21 : z21 = A 40 ((A2 0 56) - 1).toNat := hz21.trans (congrFun a_A2_40 _)
          have ez21 : z21 = z14 := hz21.trans hz14.symm
          refine lv_iconst (v := iI 0) hx hb dX12_joins_56 (by decide +kernel) ?_
          obtain ⟨A22, hA22⟩ : ∃ A22 : St, A22 = (stA A2 0 56 ((A2 0 56) - 1)) := ⟨_, rfl⟩
          rw [← hA22] at hP hI
          have e_A22_46 : A22 0 46 = (A2 0 46) := by rw [hA22]; exact rfl
          have e_A22_47 : A22 0 47 = (A 0 47) := by rw [hA22]; exact e_A2_47
          refine x_callv (As := [.int (iI z21), .int (iI 0)]) (rest := []) ⟨hx, hb, hml, hown, hts⟩ (mb_X12_add l dC dI cB cI cJ cZ cQ q _ z21 0 hI rz21 ⟨by decide, by decide⟩ (by omega) (CI.fr hc7 (fr_def hA22 (fr.sf (fr.rf (M := []) (N := [56])) rfl)) rfl rfl)) (cwV 2 hts (goodV (wl_in_1 _ (List.mem_of_getElem? (i := 41) rfl)) (wl_in_1 _ (List.mem_of_getElem? (i := 42) rfl)) (wl_in_1 _ (List.mem_of_getElem? (i := 43) rfl)) (wl_in_0 _ (List.mem_of_getElem? (i := 8) rfl)) (wl_in_1 _ (List.mem_of_getElem? (i := 29) rfl))) rfl rfl rfl (by decide +kernel) ⟨Nat.le_of_ble_eq_true rfl, Nat.le_of_ble_eq_true rfl⟩) hK hDD hA0 hP hS 0 12 wm0 rfl rfl hl.1 (Nat.le_of_ble_eq_true rfl) dX12_joins_57 (fun A23 H locs hw24 hP hS => ?_)
          have ghw24 : q_X12_add z21 0 A22 A23 := hw24
          obtain ⟨_, hI, hf25, hw24⟩ := hw24
          obtain ⟨hc26, hw24⟩ := hw24
          have r_A23_0_46 : (0 : Int) ≤ (A23 0 46) ∧ (A23 0 46) ≤ 1600 := hI 0 46
          refine lv_goto (tgt := 0) hx hb dX12_joins_60 (by decide) ?_
          have e_A22_56 : A22 0 56 = (A2 0 56) - 1 := by rw [hA22]; rfl
          have e_A23_56 : A23 0 56 = (A2 0 56) - 1 := (hf25.2 56 rfl).trans e_A22_56
          have ca27 : A2 40 = A 40 := (hj1.1 40 (by decide) rfl)
          have ca28 : A22 33 = A2 33 := by rw [hA22]; exact rfl
          have e_A22_3 : A22 0 3 = (A 0 3) := by rw [hA22]; exact e_A2_3
          have e_A22_4 : A22 0 4 = (A 0 4) := by rw [hA22]; exact e_A2_4
          have e_A22_5 : A22 0 5 = (A 0 5) := by rw [hA22]; exact e_A2_5
          have e_A22_7 : A22 0 7 = (A 0 7) := by rw [hA22]; exact e_A2_7
          have e_A22_8 : A22 0 8 = (A 0 8) := by rw [hA22]; exact e_A2_8
          have e_A22_53 : A22 0 53 = (A 0 53) := by rw [hA22]; exact e_A2_53
          have e_A22_54 : A22 0 54 = (A 0 54) := by rw [hA22]; exact e_A2_54
          have e_A23_3 : A23 0 3 = (A 0 3) := (hf25.2 3 rfl).trans e_A22_3
          have e_A23_4 : A23 0 4 = (A 0 4) := (hf25.2 4 rfl).trans e_A22_4
          have e_A23_5 : A23 0 5 = (A 0 5) := (hf25.2 5 rfl).trans e_A22_5
          have e_A23_7 : A23 0 7 = (A 0 7) := (hf25.2 7 rfl).trans e_A22_7
          have e_A23_8 : A23 0 8 = (A 0 8) := (hf25.2 8 rfl).trans e_A22_8
          have e_A23_47 : A23 0 47 = (A 0 47) := (hf25.2 47 rfl).trans e_A22_47
          have e_A23_53 : A23 0 53 = (A 0 53) := (hf25.2 53 rfl).trans e_A22_53
          have e_A23_54 : A23 0 54 = (A 0 54) := (hf25.2 54 rfl).trans e_A22_54
          have ca29 : A22 29 = A2 29 := by rw [hA22]; exact rfl
          have ca30 : A23 29 = A2 29 := (hf25.1 29 (by decide) rfl).trans ca29
          have ca31 : A22 31 = A2 31 := by rw [hA22]; exact rfl
          have ca32 : A23 31 = A2 31 := (hf25.1 31 (by decide) rfl).trans ca31
          have ca33 : A22 35 = A2 35 := by rw [hA22]; exact rfl
          have ca34 : A23 35 = A2 35 := (hf25.1 35 (by decide) rfl).trans ca33
          have ca35 : A22 37 = A2 37 := by rw [hA22]; exact rfl
          have ca36 : A23 37 = A2 37 := (hf25.1 37 (by decide) rfl).trans ca35
          have ca37 : A22 39 = A2 39 := by rw [hA22]; exact rfl
          have ca38 : A23 39 = A2 39 := (hf25.1 39 (by decide) rfl).trans ca37
          have ca39 : A22 40 = A2 40 := by rw [hA22]; exact rfl
          have ca40 : A23 40 = A2 40 := (hf25.1 40 (by decide) rfl).trans ca39
          have ca41 : A22 1 = A2 1 := by rw [hA22]; exact rfl
          have ca42 : A23 1 = A2 1 := (hf25.1 1 (by decide) rfl).trans ca41
          have ca43 : A2 39 = A 39 := (hj1.1 39 (by decide) rfl)
          exact ih4 _ (by omega) _ _ _ _ (by exact Hd.mk (RI.pop hri hIb (by rw [ca43, show A2 0 53 - 1 = (A 0 53) - 1 by omega]; omega) ⟨ca30, ca32, (hw24.2.trans (by rw [ca28, show A22 0 47 = A2 0 47 by omega, show A22 0 46 = A2 0 46 by omega, show z21 = A2 40 (A2 0 56 - 1).toNat by rw [ca27]; exact hz21])), ca34, ca36, ca38, ca40, (by omega), (e_A23_47.trans e_A2_47.symm), (e_A23_53.trans e_A2_53.symm), (e_A23_54.trans e_A2_54.symm), (by omega)⟩ (by omega) (by omega) (by omega) (LX.of ca42 (e_A23_3.trans e_A2_3.symm) (e_A23_4.trans e_A2_4.symm) (e_A23_5.trans e_A2_5.symm) (e_A23_7.trans e_A2_7.symm) (RI.lx hri)))) hc26 (SP.fr (SP.pop hc8 (by rw [hA22]; rfl) (by rw [hA22]; rfl) (by rw [hA22]; rfl) (by rw [hA22]; rfl) (by rw [hA22, stA_same, up_same]; omega)) hf25 rfl rfl) (fun uq ⟨mm1, hq⟩ => hk1 _ ⟨mm1 + 1, (u_d_X12_joins_1 ⟨gI9.out, ⟨z10, gz10.out, (Or.inr ⟨c11, ⟨z14, gz14.out, ⟨z15, ghw17, (Or.inr ⟨c18, ⟨z21, gz21.out, ⟨A22, hA22, ⟨A23, ghw24, hq⟩⟩⟩⟩)⟩⟩⟩)⟩⟩)⟩) rfl hI (fr.trans (fr_def hA22 (fr.sf (fr.trans (fr.rf) hj1 rfl rfl) rfl)) hf25 rfl rfl) hP hS (lv_sub hl [0, 1] rfl)
  exact L0_3 _ _ _ _ _ (by exact Hd.mk hp0) hcCI hcSP (fun uq ⟨mm1, hq⟩ => (u_r_X12_joins ⟨mm1, hq⟩)) rfl hI (fr.rf) hP hS (lv_sub hl [0, 1] rfl)

abbrev tr_d_X12_opens_1 (x1 : Int) (A : St) (u : St) (A7 : St) : Prop := ((IM A7) ∧ ((((A7 0 8) ≤ 0) ∧ (∃ A11 : St, A11 = (stA A7 0 54 ((A 0 54) + 1)) ∧ (∃ A12 : St, q_X12_ahead A11 A12 ∧ (∃ A15 : St, q_X12_pushes x1 A12 A15 ∧ (u = A15))))) ∨ ((¬ (A7 0 8) ≤ 0) ∧ (u = A7))))
def d_X12_opens_1 (x1 : Int) (A : St) (u : St) (A7 : St) : Prop := tr_d_X12_opens_1 x1 A u A7
theorem u_d_X12_opens_1 {x1 : Int} {A : St} {u : St} {A7 : St} (h : tr_d_X12_opens_1 x1 A u A7) : d_X12_opens_1 x1 A u A7 := h
abbrev tr_r_X12_opens (x1 : Int) (A : St) (u : St) : Prop := (((¬ (A 0 54) = 8) ∧ (d_X12_opens_1 x1 A u A)) ∨ (((A 0 54) = 8) ∧ (∃ A3 : St, q_X12_blame 5 (A 0 4) A A3 ∧ (d_X12_opens_1 x1 A u A3))))
def r_X12_opens (x1 : Int) (A : St) (u : St) : Prop := tr_r_X12_opens x1 A u
theorem u_r_X12_opens {x1 : Int} {A : St} {u : St} (h : tr_r_X12_opens x1 A u) : r_X12_opens x1 A u := h
def q_X12_opens (x1 : Int) (A : St) (u : St) : Prop := r_X12_opens x1 A u ∧ IM u ∧ fr [35, 36, 37, 39] [3, 4, 5, 6, 7, 8, 9, 53, 54] A u ∧ (Hd (u 0 8 = 0 → RI 0 u ∧ A 0 5 ≤ u 0 4 ∧ A 0 8 = 0 ∧ u 35 = up (A 35) (A 0 53).toNat x1 ∧ u 0 53 = A 0 53 + 1 ∧ u 36 = up (A 36) (A 0 53).toNat 0 ∧ u 39 = up (A 39) (A 0 53).toNat (A 0 56)))
def ws_mb_X12_opens : List Cond := .code yX12_opens cX12_opens 2 none :: WX
set_option maxHeartbeats 4000000 in
set_option maxRecDepth 100000 in
theorem mb_X12_opens (l : Launch) (dC : Nat → ClassId) (dI : Nat → Nat → Nat) (cB cI cJ cZ cQ : ClassId) (q : Nat → Nat) (A : St) (x1 : Int) (hI : IM A) (hx1 : (2 : Int) ≤ x1 ∧ x1 ≤ 5) (hp0 : Hd (A 0 8 = 0 → RI 0 A ∧ A 0 3 ≠ 0 ∧ A 37 (A 0 53 - 1).toNat = 0)) (hp1 : x1 ≠ 4) : XMv l yX12_opens ws_mb_X12_opens ({ frames := 2, cells := 0, slots := 0, locals := 47 } : Room) (dC, dI) (tyA cB cI cJ cZ cQ) (WM cI cJ cZ q) A [.ref (q 0), .int (iI x1)] (fun u => r_X12_opens x1 A u ∧ IM u ∧ fr [35, 36, 37, 39] [3, 4, 5, 6, 7, 8, 9, 53, 54] A u ∧ (Hd (u 0 8 = 0 → RI 0 u ∧ A 0 5 ≤ u 0 4 ∧ A 0 8 = 0 ∧ u 35 = up (A 35) (A 0 53).toNat x1 ∧ u 0 53 = A 0 53 + 1 ∧ u 36 = up (A 36) (A 0 53).toNat 0 ∧ u 39 = up (A 39) (A 0 53).toNat (A 0 56)))) := by
  refine x_metv (cc := cX12_opens) (maxL := 2) WM_adr (by decide +kernel) rfl (Nat.le_of_ble_eq_true rfl) (fun p e s m below meth c Q AS ls hx hb hml hown hts hK hDD hA0 hP hS hl RET => ?_)
  have hown : s.vm.findClass RX12 = some m.cls := hown
  have hl : lv_has ls 2 [(0, .ref (q 0)), (1, .int (iI x1))] := hl
  have hiX12 : ∀ w ∈ u_ws RX12 TX12 85, w ∈ ws_mb_X12_opens := fun w h => List.mem_cons_of_mem _ (wx_lay w h)
  obtain ⟨H, hHe⟩ : ∃ H : Heap, H = s.heap := ⟨_, rfl⟩
  rw [← hHe] at hP
  have hS : va_S AS s.heap H [] := by rw [hHe]; exact hS
  suffices hgo : ∀ locs : List Loc, va_S AS s.heap H locs → W p l e (headSpec ws_mb_X12_opens ({ frames := 2, cells := 0, slots := 0, locals := 47 } : Room)).room s m [.ref (q 0), .int (iI x1)].toArray below meth c H locs 0 0 Q (F0 m 0 ls []) by
    have := hgo [] hS
    rw [hHe] at this
    exact this
  clear hS hHe
  intro locs hS
  have hI0 := hI
  refine lv_aload_n hx hb dX12_opens_0 rfl (lv_at hl 0 rfl) ?_
  refine va_get (D := (dC, dI)) (ci := 12) (v := .int (iI (A 0 54))) (C := RX12) (T := TX12) (N := 85) hx hb hts hiX12 hown hK hP 0 wm0 rfl 54 (by decide) (hts _ (List.mem_cons_of_mem _ (wl_in_1 _ (List.mem_of_getElem? (i := 50) rfl)))) (fun _ h9 => h9) rfl dX12_opens_1 ?_
  have r_A_0_54 : (0 : Int) ≤ (A 0 54) ∧ (A 0 54) ≤ 8 := hI 0 54
  refine lv_bipush (v := iI 8) hx hb dX12_opens_4 (by decide +kernel) ?_
  have J18_2 : ∀ (A7 : St) (H : Heap) (locs : List Loc) (ls : Array Slot), (Hd ((A7 0 8) = 0 → (A 0 8 = 0 ∧ ¬ A 0 54 = 8))) → (∀ (u : St), (d_X12_opens_1 x1 A u A7) → r_X12_opens x1 A u) → IM A7 → fr [] [8, 9] A A7 → va_P (dC, dI) vwCl (WM cI cJ cZ q A7) H → va_S AS s.heap H locs → lv_has ls 2 [(0, .ref (q 0)), (1, .int (iI x1))] → W p l e (headSpec ws_mb_X12_opens ({ frames := 2, cells := 0, slots := 0, locals := 47 } : Room)).room s m [.ref (q 0), .int (iI x1)].toArray below meth c H locs 0 0 Q (F0 m 18 ls []) := by
    intro A7 H locs ls f8 hk1 hI hj6 hP hS hl
    have gI9 : Hd (IM A7) := Hd.mk hI
    refine lv_aload_n hx hb dX12_opens_18 rfl (lv_at hl 0 rfl) ?_
    refine va_get (D := (dC, dI)) (ci := 12) (v := .int (iI (A7 0 8))) (C := RX12) (T := TX12) (N := 85) hx hb hts hiX12 hown hK hP 0 wm0 rfl 8 (by decide) (hts _ (List.mem_cons_of_mem _ (wl_in_0 _ (List.mem_of_getElem? (i := 16) rfl)))) (fun _ h9 => h9) rfl dX12_opens_19 ?_
    have r_A7_0_8 : (0 : Int) ≤ (A7 0 8) ∧ (A7 0 8) ≤ 5 := hI 0 8
    refine lv_if_le (tgt := 26) hx hb dX12_opens_22 (by decide) (fun c10 => ?_) (fun c10 => ?_)
    · have c10 : (A7 0 8) ≤ 0 := (i_le0 (rb r_A7_0_8 (by decide) (by decide))).mp c10
      have g8 := f8.out (by omega)
      have gR := hp0.out g8.1
      have hdp := RI.deep gR.1 hI0
      refine lv_aload_n hx hb dX12_opens_26 rfl (lv_at hl 0 rfl) ?_
      refine lv_dup hx hb dX12_opens_27 rfl ?_
      have e_A7_54 : A7 0 54 = (A 0 54) := (hj6.2 54 rfl)
      refine va_get (D := (dC, dI)) (ci := 12) (v := .int (iI (A7 0 54))) (C := RX12) (T := TX12) (N := 85) hx hb hts hiX12 hown hK hP 0 wm0 rfl 54 (by decide) (hts _ (List.mem_cons_of_mem _ (wl_in_1 _ (List.mem_of_getElem? (i := 50) rfl)))) (fun _ h9 => h9) rfl dX12_opens_28 ?_
      refine tp_i (y := iI (A 0 54)) (congrArg iI e_A7_54) ?_
      refine lv_iconst (v := iI 1) hx hb dX12_opens_31 (by decide +kernel) ?_
      refine x_addv (v := (A 0 54) + 1) hx hb dX12_opens_32 (by omega) ?_
      refine x_put (D := (dC, dI)) (ci := 12) (v := .int (iI ((A 0 54) + 1))) (ty := .int) (C := RX12) (T := TX12) (N := 85) hx hb hts hiX12 tyX12 tyX12_ok nmX12 hown hK hP hDD hS 0 wm0 rfl 54 (by decide) (hts _ (List.mem_cons_of_mem _ (wl_in_1 _ (List.mem_of_getElem? (i := 50) rfl)))) (fun _ h9 => h9) rfl (by decide +kernel) rfl rfl (Nat.le_of_ble_eq_true rfl) dX12_opens_33 (wf54 (v := (A 0 54) + 1)) (fun H locs hP hS => ?_)
      have hI := hI.st (j := 0) (i := 54) (v := (A 0 54) + 1) (show (0 : Int) ≤ (A 0 54) + 1 ∧ (A 0 54) + 1 ≤ 8 from (by omega))
      refine lv_aload_n hx hb dX12_opens_36 rfl (lv_at hl 0 rfl) ?_
      obtain ⟨A11, hA11⟩ : ∃ A11 : St, A11 = (stA A7 0 54 ((A 0 54) + 1)) := ⟨_, rfl⟩
      rw [← hA11] at hP hI
      have e_A7_4 : A7 0 4 = (A 0 4) := (hj6.2 4 rfl)
      have e_A11_4 : A11 0 4 = (A 0 4) := by rw [hA11]; exact e_A7_4
      have r_A_0_4 : (0 : Int) ≤ (A 0 4) ∧ (A 0 4) ≤ 1600 := by rw [← e_A11_4]; exact hI 0 4
      have e_A7_5 : A7 0 5 = (A 0 5) := (hj6.2 5 rfl)
      have e_A11_5 : A11 0 5 = (A 0 5) := by rw [hA11]; exact e_A7_5
      have r_A_0_5 : (0 : Int) ≤ (A 0 5) ∧ (A 0 5) ≤ 1600 := by rw [← e_A11_5]; exact hI 0 5
      have e_A11_8 : A11 0 8 = (A7 0 8) := by rw [hA11]; exact rfl
      refine x_callv (As := []) (rest := []) ⟨hx, hb, hml, hown, hts⟩ (mb_X12_ahead l dC dI cB cI cJ cZ cQ q _ hI) (cwV 0 hts (goodV (wl_in_0 _ (List.mem_of_getElem? (i := 40) rfl)) (wl_in_0 _ (List.mem_of_getElem? (i := 41) rfl)) (wl_in_0 _ (List.mem_of_getElem? (i := 42) rfl)) (wl_in_0 _ (List.mem_of_getElem? (i := 8) rfl)) (wl_in_0 _ (List.mem_of_getElem? (i := 20) rfl))) rfl rfl rfl (by decide +kernel) ⟨Nat.le_of_ble_eq_true rfl, Nat.le_of_ble_eq_true rfl⟩) hK hDD hA0 hP hS 0 12 wm0 rfl rfl hl.1 (Nat.le_of_ble_eq_true rfl) dX12_opens_37 (fun A12 H locs hw13 hP hS => ?_)
      have ghw13 : q_X12_ahead A11 A12 := hw13
      obtain ⟨_, hI, hf14, hw13⟩ := hw13
      have r_A12_0_3 : (0 : Int) ≤ (A12 0 3) ∧ (A12 0 3) ≤ 3 := hI 0 3
      have r_A12_0_4 : (0 : Int) ≤ (A12 0 4) ∧ (A12 0 4) ≤ 1600 := hI 0 4
      have r_A12_0_5 : (0 : Int) ≤ (A12 0 5) ∧ (A12 0 5) ≤ 1600 := hI 0 5
      have r_A12_0_8 : (0 : Int) ≤ (A12 0 8) ∧ (A12 0 8) ≤ 5 := hI 0 8
      refine lv_aload_n hx hb dX12_opens_40 rfl (lv_at hl 0 rfl) ?_
      refine lv_iload_n hx hb dX12_opens_41 rfl (lv_at hl 1 rfl) ?_
      have e_A7_53 : A7 0 53 = (A 0 53) := (hj6.2 53 rfl)
      have e_A11_53 : A11 0 53 = (A 0 53) := by rw [hA11]; exact e_A7_53
      have e_A12_53 : A12 0 53 = (A 0 53) := (hf14.2 53 rfl).trans e_A11_53
      have r_A_0_53 : (0 : Int) ≤ (A 0 53) ∧ (A 0 53) ≤ 20 := by rw [← e_A12_53]; exact hI 0 53
      have e_A7_56 : A7 0 56 = (A 0 56) := (hj6.2 56 rfl)
      have e_A11_56 : A11 0 56 = (A 0 56) := by rw [hA11]; exact e_A7_56
      have e_A12_56 : A12 0 56 = (A 0 56) := (hf14.2 56 rfl).trans e_A11_56
      have r_A_0_56 : (0 : Int) ≤ (A 0 56) ∧ (A 0 56) ≤ 500 := by rw [← e_A12_56]; exact hI 0 56
      refine x_callv (As := [.int (iI x1)]) (rest := []) ⟨hx, hb, hml, hown, hts⟩ (mb_X12_pushes l dC dI cB cI cJ cZ cQ q _ x1 hI (rb hx1 (by decide) (by decide)) (by omega)) (cwV 1 hts (goodV (wl_in_1 _ (List.mem_of_getElem? (i := 51) rfl)) (wl_in_1 _ (List.mem_of_getElem? (i := 52) rfl)) (wl_in_1 _ (List.mem_of_getElem? (i := 53) rfl)) (wl_in_0 _ (List.mem_of_getElem? (i := 8) rfl)) (wl_in_1 _ (List.mem_of_getElem? (i := 45) rfl))) rfl rfl rfl (by decide +kernel) ⟨Nat.le_of_ble_eq_true rfl, Nat.le_of_ble_eq_true rfl⟩) hK hDD hA0 hP hS 0 12 wm0 rfl rfl hl.1 (Nat.le_of_ble_eq_true rfl) dX12_opens_42 (fun A15 H locs hw16 hP hS => ?_)
      have ghw16 : q_X12_pushes x1 A12 A15 := hw16
      obtain ⟨_, hI, hf17, hw16⟩ := hw16
      have r_A15_0_53 : (0 : Int) ≤ (A15 0 53) ∧ (A15 0 53) ≤ 20 := hI 0 53
      have e_A15_4 : A15 0 4 = (A12 0 4) := (hf17.2 4 rfl)
      have e_A15_5 : A15 0 5 = (A12 0 5) := (hf17.2 5 rfl)
      have e_A15_8 : A15 0 8 = (A12 0 8) := (hf17.2 8 rfl)
      have e_A7_46 : A7 0 46 = (A 0 46) := (hj6.2 46 rfl)
      have e_A11_46 : A11 0 46 = (A 0 46) := by rw [hA11]; exact e_A7_46
      have e_A12_46 : A12 0 46 = (A 0 46) := (hf14.2 46 rfl).trans e_A11_46
      have e_A7_47 : A7 0 47 = (A 0 47) := (hj6.2 47 rfl)
      have e_A11_47 : A11 0 47 = (A 0 47) := by rw [hA11]; exact e_A7_47
      have e_A12_47 : A12 0 47 = (A 0 47) := (hf14.2 47 rfl).trans e_A11_47
      have e_A11_54 : A11 0 54 = (A 0 54) + 1 := by rw [hA11]; rfl
      have e_A12_54 : A12 0 54 = (A 0 54) + 1 := (hf14.2 54 rfl).trans e_A11_54
      have e_A15_7 : A15 0 7 = (A12 0 7) := (hf17.2 7 rfl)
      have r_A12_0_7 : (-9223372036854775808 : Int) ≤ (A12 0 7) ∧ (A12 0 7) ≤ 9223372036854775807 := by rw [← e_A15_7]; exact hI 0 7
      have e_A15_46 : A15 0 46 = (A 0 46) := (hf17.2 46 rfl).trans e_A12_46
      have r_A_0_46 : (0 : Int) ≤ (A 0 46) ∧ (A 0 46) ≤ 1600 := by rw [← e_A15_46]; exact hI 0 46
      have e_A15_47 : A15 0 47 = (A 0 47) := (hf17.2 47 rfl).trans e_A12_47
      have r_A_0_47 : (0 : Int) ≤ (A 0 47) ∧ (A 0 47) ≤ 1 := by rw [← e_A15_47]; exact hI 0 47
      have ca18 : A7 35 = A 35 := (hj6.1 35 (by decide) rfl)
      have ca19 : A11 35 = A 35 := by rw [hA11]; exact ca18
      have ca20 : A12 35 = A 35 := (hf14.1 35 (by decide) rfl).trans ca19
      have ca21 : A7 37 = A 37 := (hj6.1 37 (by decide) rfl)
      have ca22 : A11 37 = A 37 := by rw [hA11]; exact ca21
      have ca23 : A12 37 = A 37 := (hf14.1 37 (by decide) rfl).trans ca22
      have ca24 : A7 39 = A 39 := (hj6.1 39 (by decide) rfl)
      have ca25 : A11 39 = A 39 := by rw [hA11]; exact ca24
      have ca26 : A12 39 = A 39 := (hf14.1 39 (by decide) rfl).trans ca25
      have e_A15_3 : A15 0 3 = (A12 0 3) := (hf17.2 3 rfl)
      have e_A15_54 : A15 0 54 = (A 0 54) + 1 := (hf17.2 54 rfl).trans e_A12_54
      have e_A15_56 : A15 0 56 = (A 0 56) := (hf17.2 56 rfl).trans e_A12_56
      have ca27 : A7 29 = A 29 := (hj6.1 29 (by decide) rfl)
      have ca28 : A11 29 = A 29 := by rw [hA11]; exact ca27
      have ca29 : A12 29 = A 29 := (hf14.1 29 (by decide) rfl).trans ca28
      have ca30 : A15 29 = A 29 := (hf17.1 29 (by decide) rfl).trans ca29
      have ca31 : A7 31 = A 31 := (hj6.1 31 (by decide) rfl)
      have ca32 : A11 31 = A 31 := by rw [hA11]; exact ca31
      have ca33 : A12 31 = A 31 := (hf14.1 31 (by decide) rfl).trans ca32
      have ca34 : A15 31 = A 31 := (hf17.1 31 (by decide) rfl).trans ca33
      have ca35 : A7 33 = A 33 := (hj6.1 33 (by decide) rfl)
      have ca36 : A11 33 = A 33 := by rw [hA11]; exact ca35
      have ca37 : A12 33 = A 33 := (hf14.1 33 (by decide) rfl).trans ca36
      have ca38 : A15 33 = A 33 := (hf17.1 33 (by decide) rfl).trans ca37
      have ca39 : A7 40 = A 40 := (hj6.1 40 (by decide) rfl)
      have ca40 : A11 40 = A 40 := by rw [hA11]; exact ca39
      have ca41 : A12 40 = A 40 := (hf14.1 40 (by decide) rfl).trans ca40
      have ca42 : A15 40 = A 40 := (hf17.1 40 (by decide) rfl).trans ca41
      have ca43 : A15 1 = A12 1 := (hf17.1 1 (by decide) rfl)
      have ca44 : A7 35 = A 35 := (hj6.1 35 (by decide) rfl)
      have ca45 : A11 35 = A 35 := by rw [hA11]; exact ca44
      have ca46 : A12 35 = A 35 := (hf14.1 35 (by decide) rfl).trans ca45
      have ca47 : A7 36 = A 36 := (hj6.1 36 (by decide) rfl)
      have ca48 : A11 36 = A 36 := by rw [hA11]; exact ca47
      have ca49 : A12 36 = A 36 := (hf14.1 36 (by decide) rfl).trans ca48
      have ca50 : A7 39 = A 39 := (hj6.1 39 (by decide) rfl)
      have ca51 : A11 39 = A 39 := by rw [hA11]; exact ca50
      have ca52 : A12 39 = A 39 := (hf14.1 39 (by decide) rfl).trans ca51
      exact RET _ _ _ _ _ ⟨hk1 _ (u_d_X12_opens_1 ⟨gI9.out, (Or.inl ⟨c10, ⟨A11, hA11, ⟨A12, ghw13, ⟨A15, ghw16, rfl⟩⟩⟩⟩)⟩), hI, fr.trans (fr.trans (fr_def hA11 (fr.sf (fr.trans (fr.rf) hj6 rfl rfl) rfl)) hf14 rfl rfl) hf17 rfl rfl, Hd.mk (fun h0 => ⟨RI.opn (r35 := A 35) (r37 := A 37) (r39 := A 39) gR.1 hI0 gR.2.1 (by omega) hp1 gR.2.2 ⟨ca30, ca34, ca38, (hw16.2.1.trans (by rw [ca20, show A12 0 53 = A 0 53 by omega])), (hw16.2.2.1.trans (by rw [ca23, show A12 0 53 = A 0 53 by omega])), (hw16.2.2.2.1.trans (by rw [ca26, show A12 0 53 = A 0 53 by omega, show A12 0 56 = A 0 56 by omega])), ca42, e_A15_46, e_A15_47, (by omega), (by omega), e_A15_56⟩ (by omega) (by omega) (LX.of ca43 e_A15_3 e_A15_4 e_A15_5 e_A15_7 hw13.2.2.1), by omega, g8.1, (hw16.2.1.trans (by rw [ca46, show A12 0 53 = A 0 53 by omega])), by omega, (hw16.2.2.2.2.trans (by rw [ca49, show A12 0 53 = A 0 53 by omega])), (hw16.2.2.2.1.trans (by rw [ca52, show A12 0 53 = A 0 53 by omega, show A12 0 56 = A 0 56 by omega]))⟩)⟩ hP hS dX12_opens_45
    · have c10 : ¬ (A7 0 8) ≤ 0 := mt (i_le0 (rb r_A7_0_8 (by decide) (by decide))).mpr c10
      have e_A7_4 : A7 0 4 = (A 0 4) := (hj6.2 4 rfl)
      have r_A_0_4 : (0 : Int) ≤ (A 0 4) ∧ (A 0 4) ≤ 1600 := by rw [← e_A7_4]; exact hI 0 4
      have e_A7_5 : A7 0 5 = (A 0 5) := (hj6.2 5 rfl)
      have r_A_0_5 : (0 : Int) ≤ (A 0 5) ∧ (A 0 5) ≤ 1600 := by rw [← e_A7_5]; exact hI 0 5
      have e_A7_53 : A7 0 53 = (A 0 53) := (hj6.2 53 rfl)
      have r_A_0_53 : (0 : Int) ≤ (A 0 53) ∧ (A 0 53) ≤ 20 := by rw [← e_A7_53]; exact hI 0 53
      exact RET _ _ _ _ _ ⟨hk1 _ (u_d_X12_opens_1 ⟨gI9.out, (Or.inr ⟨c10, rfl⟩)⟩), hI, fr.trans (fr.rf) hj6 rfl rfl, Hd.mk (fun h => absurd h (by omega))⟩ hP hS dX12_opens_25
  refine lv_icmp_ne (tgt := 18) hx hb dX12_opens_6 (by decide) (fun c1 => ?_) (fun c1 => ?_)
  · have c1 : ¬ (A 0 54) = 8 := mt (i_eq (rb r_A_0_54 (by decide) (by decide)) ⟨by decide, by decide⟩).mpr c1
    have r_A_0_8 : (0 : Int) ≤ (A 0 8) ∧ (A 0 8) ≤ 5 := hI 0 8
    exact J18_2 _ _ _ _ (by exact Hd.mk (by  omega)) (fun uq hq => (u_r_X12_opens (Or.inl ⟨c1, hq⟩))) hI (fr.rf) hP hS (lv_sub hl [0, 1] rfl)
  · have c1 : (A 0 54) = 8 := (i_eq (rb r_A_0_54 (by decide) (by decide)) ⟨by decide, by decide⟩).mp c1
    refine lv_aload_n hx hb dX12_opens_9 rfl (lv_at hl 0 rfl) ?_
    refine lv_iconst (v := iI 5) hx hb dX12_opens_10 (by decide +kernel) ?_
    refine lv_aload_n hx hb dX12_opens_11 rfl (lv_at hl 0 rfl) ?_
    refine va_get (D := (dC, dI)) (ci := 12) (v := .int (iI (A 0 4))) (C := RX12) (T := TX12) (N := 85) hx hb hts hiX12 hown hK hP 0 wm0 rfl 4 (by decide) (hts _ (List.mem_cons_of_mem _ (wl_in_0 _ (List.mem_of_getElem? (i := 23) rfl)))) (fun _ h9 => h9) rfl dX12_opens_12 ?_
    have r_A_0_4 : (0 : Int) ≤ (A 0 4) ∧ (A 0 4) ≤ 1600 := hI 0 4
    refine x_callv (As := [.int (iI 5), .int (iI (A 0 4))]) (rest := []) ⟨hx, hb, hml, hown, hts⟩ (mc_X12_blame l dC dI cB cI cJ cZ cQ q _ 5 (A 0 4) hI ⟨by decide, by decide⟩ r_A_0_4) (cwV 2 hts (goodV (wl_in_0 _ (List.mem_of_getElem? (i := 31) rfl)) (wl_in_0 _ (List.mem_of_getElem? (i := 32) rfl)) (wl_in_0 _ (List.mem_of_getElem? (i := 33) rfl)) (wl_in_0 _ (List.mem_of_getElem? (i := 8) rfl)) (wl_in_0 _ (List.mem_of_getElem? (i := 15) rfl))) rfl rfl rfl (by decide +kernel) ⟨Nat.le_of_ble_eq_true rfl, Nat.le_of_ble_eq_true rfl⟩) hK hDD hA0 hP hS 0 12 wm0 rfl rfl hl.1 (Nat.le_of_ble_eq_true rfl) dX12_opens_15 (fun A3 H locs hw4 hP hS => ?_)
    have ghw4 : q_X12_blame 5 (A 0 4) A A3 := hw4
    obtain ⟨_, hI, hf5, hw4⟩ := hw4
    have r_A3_0_8 : (0 : Int) ≤ (A3 0 8) ∧ (A3 0 8) ≤ 5 := hI 0 8
    exact J18_2 _ _ _ _ (by exact Hd.mk (by  omega)) (fun uq hq => (u_r_X12_opens (Or.inr ⟨c1, ⟨A3, ghw4, hq⟩⟩))) hI (fr.trans (fr.rf) hf5 rfl rfl) hP hS (lv_sub hl [0, 1] rfl)
