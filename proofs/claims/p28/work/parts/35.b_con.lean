abbrev tr_r_X12_state (A : St) (z : Int) : Prop := (∃ z1 : Int, z1 = A 49 (0 : Int).toNat ∧ (∃ z2 : Int, z2 = A 49 (1 : Int).toNat ∧ (∃ z3 : Int, z3 = A 49 (2 : Int).toNat ∧ (∃ z4 : Int, z4 = A 49 (3 : Int).toNat ∧ (z = 9604 * (A 0 67) + 1372 * z1 + 196 * z2 + 28 * z3 + 4 * z4 + (A 0 69))))))
def r_X12_state (A : St) (z : Int) : Prop := tr_r_X12_state A z
theorem u_r_X12_state {A : St} {z : Int} (h : tr_r_X12_state A z) : r_X12_state A z := h
def q_X12_state (A : St) (z : Int) : Prop := r_X12_state A z ∧ (0 ≤ z ∧ z ≤ 76831)
def ws_mc_X12_state : List Cond := .code yX12_state cX12_state 1 (some .int) :: WX
set_option maxHeartbeats 4000000 in
set_option maxRecDepth 100000 in
theorem mc_X12_state (l : Launch) (dC : Nat → ClassId) (dI : Nat → Nat → Nat) (cB cI cJ cZ cQ : ClassId) (q : Nat → Nat) (A : St) (hI : IM A) : XMi l yX12_state ws_mc_X12_state ({ frames := 0, cells := 0, slots := 0, locals := 0 } : Room) (dC, dI) (tyA cB cI cJ cZ cQ) (WM cI cJ cZ q) A [.ref (q 0)] (fun z u => A = u ∧ r_X12_state A z ∧ (0 ≤ z ∧ z ≤ 76831)) := by
  refine x_meti (cc := cX12_state) (maxL := 1) WM_adr (by decide +kernel) rfl (Nat.le_of_ble_eq_true rfl) (fun p e s m below meth c Q AS ls hx hb hml hown hts hK hDD hA0 hP hS hl RET => ?_)
  have hown : s.vm.findClass RX12 = some m.cls := hown
  have hl : lv_has ls 1 [(0, .ref (q 0))] := hl
  have hiX12 : ∀ w ∈ u_ws RX12 TX12 85, w ∈ ws_mc_X12_state := fun w h => List.mem_cons_of_mem _ (wx_lay w h)
  obtain ⟨H, hHe⟩ : ∃ H : Heap, H = s.heap := ⟨_, rfl⟩
  rw [← hHe] at hP
  have hS : va_S AS s.heap H [] := by rw [hHe]; exact hS
  suffices hgo : ∀ locs : List Loc, va_S AS s.heap H locs → W p l e (headSpec ws_mc_X12_state ({ frames := 0, cells := 0, slots := 0, locals := 0 } : Room)).room s m [.ref (q 0)].toArray below meth c H locs 0 0 Q (F0 m 0 ls []) by
    have := hgo [] hS
    rw [hHe] at this
    exact this
  clear hS hHe
  intro locs hS
  refine lv_aload_n hx hb (dk_at dkX12_state_0 0 rfl) rfl (lv_at hl 0 rfl) ?_
  refine va_get (D := (dC, dI)) (ci := 12) (v := .int (iI (A 0 67))) (C := RX12) (T := TX12) (N := 85) hx hb hts hiX12 hown hK hP 0 wm0 rfl 67 (by decide) (hts _ (List.mem_cons_of_mem _ wlq_6_38)) (fun _ h9 => h9) rfl (dk_at dkX12_state_0 1 rfl) ?_
  have r_A_0_67 : (0 : Int) ≤ (A 0 67) ∧ (A 0 67) ≤ 7 := hI 0 67
  refine lv_bipush (v := iI 7) hx hb (dk_at dkX12_state_0 2 rfl) (by decide +kernel) ?_
  refine x_mulv (v := 7 * (A 0 67)) hx hb (dk_at dkX12_state_0 3 rfl) (by omega) ?_
  refine lv_aload_n hx hb (dk_at dkX12_state_0 4 rfl) rfl (lv_at hl 0 rfl) ?_
  refine va_get (D := (dC, dI)) (ci := 12) (v := .ref (q 49)) (C := RX12) (T := TX12) (N := 85) hx hb hts hiX12 hown hK hP 0 wm0 rfl 68 (by decide) (hts _ (List.mem_cons_of_mem _ wlq_6_39)) (fun _ h9 => h9) rfl (dk_at dkX12_state_0 5 rfl) ?_
  refine lv_iconst (v := iI 0) hx hb (dk_at dkX12_state_0 6 rfl) (by decide +kernel) ?_
  refine x_iald hx hb hK hP 49 1 wm49 rfl (by omega) (by decide) (dk_at dkX12_state_0 7 rfl) (fun z1 hz1 => ?_)
  have rz1 : (0 : Int) ≤ z1 ∧ z1 ≤ 6 := by rw [hz1]; exact hI 49 _
  have gz1 := Hd.mk hz1
  have hz1 : z1 = A 49 (0 : Int).toNat := hz1
  refine x_addv (v := 7 * (A 0 67) + z1) hx hb (dk_at dkX12_state_0 8 rfl) (by omega) ?_
  refine lv_bipush (v := iI 7) hx hb (dk_at dkX12_state_0 9 rfl) (by decide +kernel) ?_
  refine x_mulv (v := 49 * (A 0 67) + 7 * z1) hx hb (dk_at dkX12_state_0 10 rfl) (by omega) ?_
  refine lv_aload_n hx hb (dk_at dkX12_state_0 11 rfl) rfl (lv_at hl 0 rfl) ?_
  refine va_get (D := (dC, dI)) (ci := 12) (v := .ref (q 49)) (C := RX12) (T := TX12) (N := 85) hx hb hts hiX12 hown hK hP 0 wm0 rfl 68 (by decide) (hts _ (List.mem_cons_of_mem _ wlq_6_39)) (fun _ h9 => h9) rfl (dk_at dkX12_state_0 12 rfl) ?_
  refine lv_iconst (v := iI 1) hx hb (dk_at dkX12_state_0 13 rfl) (by decide +kernel) ?_
  refine x_iald hx hb hK hP 49 1 wm49 rfl (by omega) (by decide) (dk_at dkX12_state_0 14 rfl) (fun z2 hz2 => ?_)
  have rz2 : (0 : Int) ≤ z2 ∧ z2 ≤ 6 := by rw [hz2]; exact hI 49 _
  have gz2 := Hd.mk hz2
  have hz2 : z2 = A 49 (1 : Int).toNat := hz2
  refine x_addv (v := 49 * (A 0 67) + 7 * z1 + z2) hx hb (dk_at dkX12_state_0 15 rfl) (by omega) ?_
  refine lv_bipush (v := iI 7) hx hb (dk_at dkX12_state_1 0 rfl) (by decide +kernel) ?_
  refine x_mulv (v := 343 * (A 0 67) + 49 * z1 + 7 * z2) hx hb (dk_at dkX12_state_1 1 rfl) (by omega) ?_
  refine lv_aload_n hx hb (dk_at dkX12_state_1 2 rfl) rfl (lv_at hl 0 rfl) ?_
  refine va_get (D := (dC, dI)) (ci := 12) (v := .ref (q 49)) (C := RX12) (T := TX12) (N := 85) hx hb hts hiX12 hown hK hP 0 wm0 rfl 68 (by decide) (hts _ (List.mem_cons_of_mem _ wlq_6_39)) (fun _ h9 => h9) rfl (dk_at dkX12_state_1 3 rfl) ?_
  refine lv_iconst (v := iI 2) hx hb (dk_at dkX12_state_1 4 rfl) (by decide +kernel) ?_
  refine x_iald hx hb hK hP 49 1 wm49 rfl (by omega) (by decide) (dk_at dkX12_state_1 5 rfl) (fun z3 hz3 => ?_)
  have rz3 : (0 : Int) ≤ z3 ∧ z3 ≤ 6 := by rw [hz3]; exact hI 49 _
  have gz3 := Hd.mk hz3
  have hz3 : z3 = A 49 (2 : Int).toNat := hz3
  refine x_addv (v := 343 * (A 0 67) + 49 * z1 + 7 * z2 + z3) hx hb (dk_at dkX12_state_1 6 rfl) (by omega) ?_
  refine lv_bipush (v := iI 7) hx hb (dk_at dkX12_state_1 7 rfl) (by decide +kernel) ?_
  refine x_mulv (v := 2401 * (A 0 67) + 343 * z1 + 49 * z2 + 7 * z3) hx hb (dk_at dkX12_state_1 8 rfl) (by omega) ?_
  refine lv_aload_n hx hb (dk_at dkX12_state_1 9 rfl) rfl (lv_at hl 0 rfl) ?_
  refine va_get (D := (dC, dI)) (ci := 12) (v := .ref (q 49)) (C := RX12) (T := TX12) (N := 85) hx hb hts hiX12 hown hK hP 0 wm0 rfl 68 (by decide) (hts _ (List.mem_cons_of_mem _ wlq_6_39)) (fun _ h9 => h9) rfl (dk_at dkX12_state_1 10 rfl) ?_
  refine lv_iconst (v := iI 3) hx hb (dk_at dkX12_state_1 11 rfl) (by decide +kernel) ?_
  refine x_iald hx hb hK hP 49 1 wm49 rfl (by omega) (by decide) (dk_at dkX12_state_1 12 rfl) (fun z4 hz4 => ?_)
  have rz4 : (0 : Int) ≤ z4 ∧ z4 ≤ 6 := by rw [hz4]; exact hI 49 _
  have gz4 := Hd.mk hz4
  have hz4 : z4 = A 49 (3 : Int).toNat := hz4
  refine x_addv (v := 2401 * (A 0 67) + 343 * z1 + 49 * z2 + 7 * z3 + z4) hx hb (dk_at dkX12_state_1 13 rfl) (by omega) ?_
  refine lv_iconst (v := iI 4) hx hb (dk_at dkX12_state_1 14 rfl) (by decide +kernel) ?_
  refine x_mulv (v := 9604 * (A 0 67) + 1372 * z1 + 196 * z2 + 28 * z3 + 4 * z4) hx hb (dk_at dkX12_state_1 15 rfl) (by omega) ?_
  refine lv_aload_n hx hb (dk_at dkX12_state_2 0 rfl) rfl (lv_at hl 0 rfl) ?_
  refine va_get (D := (dC, dI)) (ci := 12) (v := .int (iI (A 0 69))) (C := RX12) (T := TX12) (N := 85) hx hb hts hiX12 hown hK hP 0 wm0 rfl 69 (by decide) (hts _ (List.mem_cons_of_mem _ wlq_6_40)) (fun _ h9 => h9) rfl (dk_at dkX12_state_2 1 rfl) ?_
  have r_A_0_69 : (0 : Int) ≤ (A 0 69) ∧ (A 0 69) ≤ 3 := hI 0 69
  refine x_addv (v := 9604 * (A 0 67) + 1372 * z1 + 196 * z2 + 28 * z3 + 4 * z4 + (A 0 69)) hx hb (dk_at dkX12_state_2 2 rfl) (by omega) ?_
  exact RET (9604 * (A 0 67) + 1372 * z1 + 196 * z2 + 28 * z3 + 4 * z4 + (A 0 69)) _ _ _ _ _ ⟨rfl, (u_r_X12_state ⟨z1, gz1.out, ⟨z2, gz2.out, ⟨z3, gz3.out, ⟨z4, gz4.out, rfl⟩⟩⟩⟩), by omega⟩ hP hS (dk_at dkX12_state_2 3 rfl)

abbrev tr_d_X12_takes_1 (u : St) (K1 : Int → Int → St → Prop) (z4 : Int) (z5 : Int) (A7 : St) : Prop := ((IM A7) ∧ ((-2147483648 ≤ z4 ∧ z4 ≤ 3) ∧ ((0 ≤ z5 ∧ z5 ≤ 19207) ∧ (((z4 < 0) ∧ (u = (stA A7 0 67 z5))) ∨ ((¬ z4 < 0) ∧ (∃ z17 : Int, z17 = z5 % 7 ∧ (∃ z18 : Int, z18 = z5 / 7 ∧ (∃ A19 : St, A19 = (stA A7 49 (z4).toNat z17) ∧ (K1 (z4 - 1) z18 A19)))))))))
def d_X12_takes_1 (u : St) : Nat → Int → Int → St → Prop
  | 0, _, _, _ => False
  | nn9 + 1, z4, z5, A7 => tr_d_X12_takes_1 u (fun z4 z5 A7 => d_X12_takes_1 u nn9 z4 z5 A7) z4 z5 A7
theorem u_d_X12_takes_1 {u : St} {nn9 : Nat} {z4 : Int} {z5 : Int} {A7 : St} (h : tr_d_X12_takes_1 u (fun z4 z5 A7 => d_X12_takes_1 u nn9 z4 z5 A7) z4 z5 A7) : d_X12_takes_1 u (nn9 + 1) z4 z5 A7 := h
abbrev tr_r_X12_takes (x1 : Int) (A : St) (u : St) : Prop := (∃ z1 : Int, z1 = x1 % 4 ∧ (∃ z2 : Int, z2 = x1 / 4 ∧ (∃ A3 : St, A3 = (stA A 0 69 z1) ∧ (∃ nn9 : Nat, d_X12_takes_1 u nn9 3 z2 A3))))
def r_X12_takes (x1 : Int) (A : St) (u : St) : Prop := tr_r_X12_takes x1 A u
theorem u_r_X12_takes {x1 : Int} {A : St} {u : St} (h : tr_r_X12_takes x1 A u) : r_X12_takes x1 A u := h
def q_X12_takes (x1 : Int) (A : St) (u : St) : Prop := r_X12_takes x1 A u ∧ IM u ∧ fr [49] [67, 69] A u ∧ (True)
def ws_mc_X12_takes : List Cond := .code yX12_takes cX12_takes 4 none :: WX
set_option maxHeartbeats 4000000 in
set_option maxRecDepth 100000 in
theorem mc_X12_takes (l : Launch) (dC : Nat → ClassId) (dI : Nat → Nat → Nat) (cB cI cJ cZ cQ : ClassId) (q : Nat → Nat) (A : St) (x1 : Int) (hI : IM A) (hx1 : (0 : Int) ≤ x1 ∧ x1 ≤ 76831) : XMv l yX12_takes ws_mc_X12_takes ({ frames := 0, cells := 0, slots := 0, locals := 0 } : Room) (dC, dI) (tyA cB cI cJ cZ cQ) (WM cI cJ cZ q) A [.ref (q 0), .int (iI x1)] (fun u => r_X12_takes x1 A u ∧ IM u ∧ fr [49] [67, 69] A u ∧ (True)) := by
  refine x_metv (cc := cX12_takes) (maxL := 4) WM_adr (by decide +kernel) rfl (Nat.le_of_ble_eq_true rfl) (fun p e s m below meth c Q AS ls hx hb hml hown hts hK hDD hA0 hP hS hl RET => ?_)
  have hown : s.vm.findClass RX12 = some m.cls := hown
  have hl : lv_has ls 4 [(0, .ref (q 0)), (1, .int (iI x1))] := hl
  have hiX12 : ∀ w ∈ u_ws RX12 TX12 85, w ∈ ws_mc_X12_takes := fun w h => List.mem_cons_of_mem _ (wx_lay w h)
  obtain ⟨H, hHe⟩ : ∃ H : Heap, H = s.heap := ⟨_, rfl⟩
  rw [← hHe] at hP
  have hS : va_S AS s.heap H [] := by rw [hHe]; exact hS
  suffices hgo : ∀ locs : List Loc, va_S AS s.heap H locs → W p l e (headSpec ws_mc_X12_takes ({ frames := 0, cells := 0, slots := 0, locals := 0 } : Room)).room s m [.ref (q 0), .int (iI x1)].toArray below meth c H locs 0 0 Q (F0 m 0 ls []) by
    have := hgo [] hS
    rw [hHe] at this
    exact this
  clear hS hHe
  intro locs hS
  refine lv_aload_n hx hb (dk_at dkX12_takes_0 0 rfl) rfl (lv_at hl 0 rfl) ?_
  refine lv_iload_n hx hb (dk_at dkX12_takes_0 1 rfl) rfl (lv_at hl 1 rfl) ?_
  refine lv_iconst (v := iI 4) hx hb (dk_at dkX12_takes_0 2 rfl) (by decide +kernel) ?_
  refine x_rem hx hb (dk_at dkX12_takes_0 3 rfl) (by omega) (by omega) (fun z1 hz1 hz1b => ?_)
  refine x_put (D := (dC, dI)) (ci := 12) (v := .int (iI z1)) (ty := .int) (C := RX12) (T := TX12) (N := 85) hx hb hts hiX12 tyX12 tyX12_ok nmX12 hown hK hP hDD hS 0 wm0 rfl 69 (by decide) (hts _ (List.mem_cons_of_mem _ wlq_6_40)) (fun _ h9 => h9) rfl (by decide +kernel) rfl rfl (Nat.le_of_ble_eq_true rfl) (dk_at dkX12_takes_0 4 rfl) (wf69 (v := z1)) (fun H locs hP hS => ?_)
  have hI := hI.st (j := 0) (i := 69) (v := z1) (show (0 : Int) ≤ z1 ∧ z1 ≤ 3 from (by omega))
  refine lv_iload_n hx hb (dk_at dkX12_takes_0 5 rfl) rfl (lv_at hl 1 rfl) ?_
  refine lv_iconst (v := iI 4) hx hb (dk_at dkX12_takes_0 6 rfl) (by decide +kernel) ?_
  refine x_div hx hb (dk_at dkX12_takes_0 7 rfl) (by omega) (by omega) (fun z2 hz2 hz2b => ?_)
  refine lv_istore_n (lv' := [(2, .int (iI z2)), (0, .ref (q 0)), (1, .int (iI x1))]) hx hb (dk_at dkX12_takes_0 8 rfl) rfl hl (by decide) rfl (fun ls hl => ?_)
  refine lv_iconst (v := iI 3) hx hb (dk_at dkX12_takes_0 9 rfl) (by decide +kernel) ?_
  refine lv_istore_n (lv' := [(3, .int (iI 3)), (2, .int (iI z2)), (0, .ref (q 0)), (1, .int (iI x1))]) hx hb (dk_at dkX12_takes_0 10 rfl) rfl hl (by decide) rfl (fun ls hl => ?_)
  obtain ⟨A3, hA3⟩ : ∃ A3 : St, A3 = (stA A 0 69 z1) := ⟨_, rfl⟩
  rw [← hA3] at hP hI
  have L13_8 : ∀ (n10 : Nat) (z4 z5 : Int) (A7 : St) (H : Heap) (locs : List Loc) (ls : Array Slot), (z4 ≤ 3) → (-2147483648 ≤ z4 ∧ z4 ≤ 3) → (0 ≤ z5 ∧ z5 ≤ 19207) → ((z4 = 3 → z5 ≤ 19207) ∧ (z4 = 2 → z5 ≤ 2743) ∧ (z4 = 1 → z5 ≤ 391) ∧ (z4 = 0 → z5 ≤ 55) ∧ (z4 = -1 → z5 ≤ 7) ∧ -1 ≤ z4) → (∀ (u : St), (∃ mm1 : Nat, (d_X12_takes_1 u mm1 z4 z5 A7)) → r_X12_takes x1 A u) → ((z4 - 0 + 1).toNat = n10) → IM A7 → fr [49] [] A3 A7 → va_P (dC, dI) vwCl (WM cI cJ cZ q A7) H → va_S AS s.heap H locs → lv_has ls 4 [(3, .int (iI z4)), (2, .int (iI z5)), (0, .ref (q 0)), (1, .int (iI x1))] → W p l e (headSpec ws_mc_X12_takes ({ frames := 0, cells := 0, slots := 0, locals := 0 } : Room)).room s m [.ref (q 0), .int (iI x1)].toArray below meth c H locs 0 0 Q (F0 m 13 ls []) := by
    intro n10
    induction n10 using Nat.strongRecOn with
    | ind n10 ih9 =>
      intro z4 z5 A7 H locs ls f11 f12 f13 f14 hk1 hn10 hI hj6 hP hS hl
      have gI15 : Hd (IM A7) := Hd.mk hI
      refine lv_iload_n hx hb (dk_at dkX12_takes_0 11 rfl) rfl (lv_at hl 0 rfl) ?_
      refine lv_if_lt (tgt := 38) hx hb (dk_at dkX12_takes_0 12 rfl) (by decide) (fun c16 => ?_) (fun c16 => ?_)
      · have c16 : z4 < 0 := (i_lt0 (rb f12 (by decide) (by decide))).mp c16
        refine lv_aload_n hx hb (dk_at dkX12_takes_1 10 rfl) rfl (lv_at hl 2 rfl) ?_
        refine lv_iload_n hx hb (dk_at dkX12_takes_1 11 rfl) rfl (lv_at hl 1 rfl) ?_
        refine x_put (D := (dC, dI)) (ci := 12) (v := .int (iI z5)) (ty := .int) (C := RX12) (T := TX12) (N := 85) hx hb hts hiX12 tyX12 tyX12_ok nmX12 hown hK hP hDD hS 0 wm0 rfl 67 (by decide) (hts _ (List.mem_cons_of_mem _ wlq_6_38)) (fun _ h9 => h9) rfl (by decide +kernel) rfl rfl (Nat.le_of_ble_eq_true rfl) (dk_at dkX12_takes_1 12 rfl) (wf67 (v := z5)) (fun H locs hP hS => ?_)
        have hI := hI.st (j := 0) (i := 67) (v := z5) (show (0 : Int) ≤ z5 ∧ z5 ≤ 7 from (by omega))
        exact RET _ _ _ _ _ ⟨hk1 _ ⟨0 + 1, (u_d_X12_takes_1 ⟨gI15.out, ⟨f12, ⟨f13, (Or.inl ⟨c16, rfl⟩)⟩⟩⟩)⟩, hI, fr.sf (fr.trans (fr_def hA3 (fr.sf (fr.rf) rfl)) hj6 rfl rfl) rfl, trivial⟩ hP hS (dk_at dkX12_takes_1 13 rfl)
      · have c16 : ¬ z4 < 0 := mt (i_lt0 (rb f12 (by decide) (by decide))).mpr c16
        refine lv_aload_n hx hb (dk_at dkX12_takes_0 13 rfl) rfl (lv_at hl 2 rfl) ?_
        refine va_get (D := (dC, dI)) (ci := 12) (v := .ref (q 49)) (C := RX12) (T := TX12) (N := 85) hx hb hts hiX12 hown hK hP 0 wm0 rfl 68 (by decide) (hts _ (List.mem_cons_of_mem _ wlq_6_39)) (fun _ h9 => h9) rfl (dk_at dkX12_takes_0 14 rfl) ?_
        refine lv_iload_n hx hb (dk_at dkX12_takes_0 15 rfl) rfl (lv_at hl 0 rfl) ?_
        refine lv_iload_n hx hb (dk_at dkX12_takes_1 0 rfl) rfl (lv_at hl 1 rfl) ?_
        refine lv_bipush (v := iI 7) hx hb (dk_at dkX12_takes_1 1 rfl) (by decide +kernel) ?_
        refine x_rem hx hb (dk_at dkX12_takes_1 2 rfl) (by omega) (by omega) (fun z17 hz17 hz17b => ?_)
        refine x_iast hx hb hK hP hDD hS 49 1 wm49 rfl (by omega) (by decide) (dk_at dkX12_takes_1 3 rfl) ws49 (fun H locs hP hS => ?_)
        have hI := hI.st (j := 49) (i := (z4).toNat) (v := z17) (show (0 : Int) ≤ z17 ∧ z17 ≤ 6 from (by omega))
        refine lv_iload_n hx hb (dk_at dkX12_takes_1 4 rfl) rfl (lv_at hl 1 rfl) ?_
        refine lv_bipush (v := iI 7) hx hb (dk_at dkX12_takes_1 5 rfl) (by decide +kernel) ?_
        refine x_div hx hb (dk_at dkX12_takes_1 6 rfl) (by omega) (by omega) (fun z18 hz18 hz18b => ?_)
        refine lv_istore_n (lv' := [(2, .int (iI z18)), (3, .int (iI z4)), (0, .ref (q 0)), (1, .int (iI x1))]) hx hb (dk_at dkX12_takes_1 7 rfl) rfl hl (by decide) rfl (fun ls hl => ?_)
        refine lv_iinc (v := iI (z4 - 1)) (lv' := [(3, .int (iI (z4 - 1))), (2, .int (iI z18)), (0, .ref (q 0)), (1, .int (iI x1))]) hx hb (dk_at dkX12_takes_1 8 rfl) hl (k := 1) rfl (i_inc (by omega)) (by decide) rfl (fun ls hl => ?_)
        refine lv_goto (tgt := 13) hx hb (dk_at dkX12_takes_1 9 rfl) (by decide) ?_
        obtain ⟨A19, hA19⟩ : ∃ A19 : St, A19 = (stA A7 49 (z4).toNat z17) := ⟨_, rfl⟩
        rw [← hA19] at hP hI
        exact ih9 _ (by omega) (z4 - 1) z18 _ _ _ _ (by omega) (by omega) (by omega) (by omega) (fun uq ⟨mm1, hq⟩ => hk1 _ ⟨mm1 + 1, (u_d_X12_takes_1 ⟨gI15.out, ⟨f12, ⟨f13, (Or.inr ⟨c16, ⟨z17, hz17, ⟨z18, hz18, ⟨A19, hA19, hq⟩⟩⟩⟩)⟩⟩⟩)⟩) rfl hI (fr_def hA19 (fr.st (fr.trans (fr.rf) hj6 rfl rfl) (by decide) rfl)) hP hS (lv_sub hl [0, 1, 2, 3] rfl)
  exact L13_8 _ 3 z2 _ _ _ _ (by omega) (by omega) (by omega) (by omega) (fun uq ⟨mm1, hq⟩ => (u_r_X12_takes ⟨z1, hz1, ⟨z2, hz2, ⟨A3, hA3, ⟨mm1, hq⟩⟩⟩⟩)) rfl hI (fr.rf) hP hS (lv_sub hl [0, 1, 2, 3] rfl)

abbrev tr_d_X12_isClosed_2 (K1 : Int → Prop) (x1 : Int) (z6 : Int) (A : St) (z : Int) (K2 : Int → Prop) (z16 : Int) : Prop := ((0 ≤ z16 ∧ z16 ≤ 2147483647) ∧ (∃ z24 : Int, z24 = A 49 (z6).toNat ∧ (((z24 ≤ z16) ∧ (K1 (z6 + 1))) ∨ ((¬ z24 ≤ z16) ∧ (∃ z26 : Int, q_X12_key4 z6 A z26 ∧ (∃ z29 : Int, z29 = A 15 (40 * (A 0 12) + 10 * z6 + z16).toNat ∧ (((¬ z29 = x1) ∧ (K2 (z16 + 1))) ∨ ((z29 = x1) ∧ (z = 1)))))))))
def d_X12_isClosed_2 (K1 : Int → Prop) (x1 : Int) (z6 : Int) (A : St) (z : Int) : Nat → Int → Prop
  | 0, _ => False
  | nn9 + 1, z16 => tr_d_X12_isClosed_2 K1 x1 z6 A z (fun z16 => d_X12_isClosed_2 K1 x1 z6 A z nn9 z16) z16
theorem u_d_X12_isClosed_2 {K1 : Int → Prop} {x1 : Int} {z6 : Int} {A : St} {z : Int} {nn9 : Nat} {z16 : Int} (h : tr_d_X12_isClosed_2 K1 x1 z6 A z (fun z16 => d_X12_isClosed_2 K1 x1 z6 A z nn9 z16) z16) : d_X12_isClosed_2 K1 x1 z6 A z (nn9 + 1) z16 := h
abbrev tr_d_X12_isClosed_1 (x1 : Int) (A : St) (z : Int) (K1 : Int → Prop) (z6 : Int) : Prop := ((0 ≤ z6 ∧ z6 ≤ 2147483647) ∧ (∃ z14 : Int, z14 = A 11 ((A 0 12)).toNat ∧ (((z14 ≤ z6) ∧ (z = 0)) ∨ ((¬ z14 ≤ z6) ∧ (∃ nn9 : Nat, d_X12_isClosed_2 K1 x1 z6 A z nn9 0)))))
def d_X12_isClosed_1 (x1 : Int) (A : St) (z : Int) : Nat → Int → Prop
  | 0, _ => False
  | nn9 + 1, z6 => tr_d_X12_isClosed_1 x1 A z (fun z6 => d_X12_isClosed_1 x1 A z nn9 z6) z6
theorem u_d_X12_isClosed_1 {x1 : Int} {A : St} {z : Int} {nn9 : Nat} {z6 : Int} (h : tr_d_X12_isClosed_1 x1 A z (fun z6 => d_X12_isClosed_1 x1 A z nn9 z6) z6) : d_X12_isClosed_1 x1 A z (nn9 + 1) z6 := h
abbrev tr_r_X12_isClosed (x1 : Int) (A : St) (z : Int) : Prop := (∃ z1 : Int, q_X12_door10 x1 A z1 ∧ (∃ z4 : Int, z4 = A 10 (10 * (A 0 12) + x1).toNat ∧ (((z4 = 0) ∧ (∃ nn9 : Nat, d_X12_isClosed_1 x1 A z nn9 0)) ∨ ((¬ z4 = 0) ∧ (z = 1)))))
def r_X12_isClosed (x1 : Int) (A : St) (z : Int) : Prop := tr_r_X12_isClosed x1 A z
theorem u_r_X12_isClosed {x1 : Int} {A : St} {z : Int} (h : tr_r_X12_isClosed x1 A z) : r_X12_isClosed x1 A z := h
def q_X12_isClosed (x1 : Int) (A : St) (z : Int) : Prop := r_X12_isClosed x1 A z ∧ (0 ≤ z ∧ z ≤ 1)
def ws_mc_X12_isClosed : List Cond := .code yX12_isClosed cX12_isClosed 4 (some .boolean) :: WX
set_option maxHeartbeats 4000000 in
set_option maxRecDepth 100000 in
theorem mc_X12_isClosed (l : Launch) (dC : Nat → ClassId) (dI : Nat → Nat → Nat) (cB cI cJ cZ cQ : ClassId) (q : Nat → Nat) (A : St) (x1 : Int) (hI : IM A) (hx1 : (0 : Int) ≤ x1 ∧ x1 ≤ 9) : XMi l yX12_isClosed ws_mc_X12_isClosed ({ frames := 1, cells := 0, slots := 0, locals := 21 } : Room) (dC, dI) (tyA cB cI cJ cZ cQ) (WM cI cJ cZ q) A [.ref (q 0), .int (iI x1)] (fun z u => A = u ∧ r_X12_isClosed x1 A z ∧ (0 ≤ z ∧ z ≤ 1)) := by
  refine x_metz (cc := cX12_isClosed) (maxL := 4) WM_adr (by decide +kernel) rfl (Nat.le_of_ble_eq_true rfl) (fun z u h => h.2.2) (fun p e s m below meth c Q AS ls hx hb hml hown hts hK hDD hA0 hP hS hl RET => ?_)
  have hown : s.vm.findClass RX12 = some m.cls := hown
  have hl : lv_has ls 4 [(0, .ref (q 0)), (1, .int (iI x1))] := hl
  have hiX12 : ∀ w ∈ u_ws RX12 TX12 85, w ∈ ws_mc_X12_isClosed := fun w h => List.mem_cons_of_mem _ (wx_lay w h)
  obtain ⟨H, hHe⟩ : ∃ H : Heap, H = s.heap := ⟨_, rfl⟩
  rw [← hHe] at hP
  have hS : va_S AS s.heap H [] := by rw [hHe]; exact hS
  suffices hgo : ∀ locs : List Loc, va_S AS s.heap H locs → W p l e (headSpec ws_mc_X12_isClosed ({ frames := 1, cells := 0, slots := 0, locals := 21 } : Room)).room s m [.ref (q 0), .int (iI x1)].toArray below meth c H locs 0 0 Q (F0 m 0 ls []) by
    have := hgo [] hS
    rw [hHe] at this
    exact this
  clear hS hHe
  intro locs hS
  refine lv_aload_n hx hb (dk_at dkX12_isClosed_0 0 rfl) rfl (lv_at hl 0 rfl) ?_
  refine va_get (D := (dC, dI)) (ci := 12) (v := .ref (q 10)) (C := RX12) (T := TX12) (N := 85) hx hb hts hiX12 hown hK hP 0 wm0 rfl 21 (by decide) (hts _ (List.mem_cons_of_mem _ wlq_2_43)) (fun _ h9 => h9) rfl (dk_at dkX12_isClosed_0 1 rfl) ?_
  refine lv_aload_n hx hb (dk_at dkX12_isClosed_0 2 rfl) rfl (lv_at hl 0 rfl) ?_
  refine lv_iload_n hx hb (dk_at dkX12_isClosed_0 3 rfl) rfl (lv_at hl 1 rfl) ?_
  have r_A_0_12 : (0 : Int) ≤ (A 0 12) ∧ (A 0 12) ≤ 1 := hI 0 12
  refine x_calli (As := [.int (iI x1)]) (rest := [.ref (q 10)]) ⟨hx, hb, hml, hown, hts⟩ (mc_X12_door10 l dC dI cB cI cJ cZ cQ q _ x1 hI hx1) (cwV 1 hts (goodV wlq_4_49 wlq_4_50 wlq_4_51 wlq_0_8 wlq_4_42) rfl rfl rfl (by decide +kernel) ⟨Nat.le_of_ble_eq_true rfl, Nat.le_of_ble_eq_true rfl⟩) hK hDD hA0 hP hS 0 12 wm0 rfl rfl hl.1 (Nat.le_of_ble_eq_true rfl) (dk_at dkX12_isClosed_0 4 rfl) (fun z1 A2 H locs hw3 hP hS => ?_)
  obtain ⟨rfl, hw3⟩ := hw3
  have ghw3 : q_X12_door10 x1 A z1 := hw3
  have hw3 := hw3.2
  refine tp_i (y := iI (10 * (A 0 12) + x1)) (congrArg iI (show z1 = 10 * (A 0 12) + x1 by omega)) ?_
  clear hw3
  refine x_zald hx hb hK hP 10 3 wm10 rfl (by omega) (by decide) (dk_at dkX12_isClosed_0 5 rfl) (fun z4 hz4 => ?_)
  have rz4 : (0 : Int) ≤ z4 ∧ z4 ≤ 1 := by rw [hz4]; exact hI 10 _
  have gz4 := Hd.mk hz4
  have hz4 : z4 = A 10 (10 * (A 0 12) + x1).toNat := hz4
  refine lv_if_eq (tgt := 15) hx hb (dk_at dkX12_isClosed_0 6 rfl) (by decide) (fun c5 => ?_) (fun c5 => ?_)
  · have c5 : z4 = 0 := (i_eq0 (rb rz4 (by decide) (by decide))).mp c5
    refine lv_iconst (v := iI 0) hx hb (dk_at dkX12_isClosed_0 9 rfl) (by decide +kernel) ?_
    refine lv_istore_n (lv' := [(2, .int (iI 0)), (0, .ref (q 0)), (1, .int (iI x1))]) hx hb (dk_at dkX12_isClosed_0 10 rfl) rfl hl (by decide) rfl (fun ls hl => ?_)
    have L17_9 : ∀ (n11 : Nat) (z6 : Int) (H : Heap) (locs : List Loc) (ls : Array Slot), (0 ≤ z6) → (0 ≤ z6 ∧ z6 ≤ 2147483647) → (∀ (z : Int), (∃ mm1 : Nat, (d_X12_isClosed_1 x1 A z mm1 z6)) → r_X12_isClosed x1 A z) → ((A 11 ((A 0 12)).toNat - z6 + 1).toNat = n11) → va_P (dC, dI) vwCl (WM cI cJ cZ q A) H → va_S AS s.heap H locs → lv_has ls 4 [(2, .int (iI z6)), (0, .ref (q 0)), (1, .int (iI x1))] → W p l e (headSpec ws_mc_X12_isClosed ({ frames := 1, cells := 0, slots := 0, locals := 21 } : Room)).room s m [.ref (q 0), .int (iI x1)].toArray below meth c H locs 0 0 Q (F0 m 17 ls []) := by
      intro n11
      induction n11 using Nat.strongRecOn with
      | ind n11 ih10 =>
        intro z6 H locs ls f12 f13 hk1 hn11 hP hS hl
        refine lv_iload_n hx hb (dk_at dkX12_isClosed_0 11 rfl) rfl (lv_at hl 0 rfl) ?_
        refine lv_aload_n hx hb (dk_at dkX12_isClosed_0 12 rfl) rfl (lv_at hl 1 rfl) ?_
        refine va_get (D := (dC, dI)) (ci := 12) (v := .ref (q 11)) (C := RX12) (T := TX12) (N := 85) hx hb hts hiX12 hown hK hP 0 wm0 rfl 22 (by decide) (hts _ (List.mem_cons_of_mem _ wlq_1_14)) (fun _ h9 => h9) rfl (dk_at dkX12_isClosed_0 13 rfl) ?_
        refine lv_aload_n hx hb (dk_at dkX12_isClosed_0 14 rfl) rfl (lv_at hl 1 rfl) ?_
        refine va_get (D := (dC, dI)) (ci := 12) (v := .int (iI (A 0 12))) (C := RX12) (T := TX12) (N := 85) hx hb hts hiX12 hown hK hP 0 wm0 rfl 12 (by decide) (hts _ (List.mem_cons_of_mem _ wlq_4_14)) (fun _ h9 => h9) rfl (dk_at dkX12_isClosed_0 15 rfl) ?_
        refine x_iald hx hb hK hP 11 1 wm11 rfl (by omega) (by decide) (dk_at dkX12_isClosed_1 0 rfl) (fun z14 hz14 => ?_)
        have rz14 : (0 : Int) ≤ z14 ∧ z14 ≤ 4 := by rw [hz14]; exact hI 11 _
        have gz14 := Hd.mk hz14
        have hz14 : z14 = A 11 ((A 0 12)).toNat := hz14
        refine lv_icmp_ge (tgt := 75) hx hb (dk_at dkX12_isClosed_1 1 rfl) (by decide) (fun c15 => ?_) (fun c15 => ?_)
        · have c15 : z14 ≤ z6 := (i_le (rb rz14 (by decide) (by decide)) (rb f13 (by decide) (by decide))).mp c15
          refine lv_iconst (v := iI 0) hx hb (dk_at dkX12_isClosed_2 12 rfl) (by decide +kernel) ?_
          exact RET 0 _ _ _ _ _ ⟨rfl, hk1 _ ⟨0 + 1, (u_d_X12_isClosed_1 ⟨f13, ⟨z14, gz14.out, (Or.inl ⟨c15, rfl⟩)⟩⟩)⟩, by omega⟩ hP hS (dk_at dkX12_isClosed_2 13 rfl)
        · have c15 : ¬ z14 ≤ z6 := mt (i_le (rb rz14 (by decide) (by decide)) (rb f13 (by decide) (by decide))).mpr c15
          refine lv_iconst (v := iI 0) hx hb (dk_at dkX12_isClosed_1 2 rfl) (by decide +kernel) ?_
          refine lv_istore_n (lv' := [(3, .int (iI 0)), (2, .int (iI z6)), (0, .ref (q 0)), (1, .int (iI x1))]) hx hb (dk_at dkX12_isClosed_1 3 rfl) rfl hl (by decide) rfl (fun ls hl => ?_)
          have L32_19 : ∀ (n21 : Nat) (z16 : Int) (H : Heap) (locs : List Loc) (ls : Array Slot), (0 ≤ z16) → (0 ≤ z16 ∧ z16 ≤ 2147483647) → (∀ (z : Int), (∃ mm1 mm2 : Nat, (d_X12_isClosed_2 (fun z6' => d_X12_isClosed_1 x1 A z mm1 z6') x1 z6 A z mm2 z16)) → r_X12_isClosed x1 A z) → ((A 49 (z6).toNat - z16 + 1).toNat = n21) → va_P (dC, dI) vwCl (WM cI cJ cZ q A) H → va_S AS s.heap H locs → lv_has ls 4 [(3, .int (iI z16)), (2, .int (iI z6)), (0, .ref (q 0)), (1, .int (iI x1))] → W p l e (headSpec ws_mc_X12_isClosed ({ frames := 1, cells := 0, slots := 0, locals := 21 } : Room)).room s m [.ref (q 0), .int (iI x1)].toArray below meth c H locs 0 0 Q (F0 m 32 ls []) := by
            intro n21
            induction n21 using Nat.strongRecOn with
            | ind n21 ih20 =>
              intro z16 H locs ls f22 f23 hk2 hn21 hP hS hl
              refine lv_iload_n hx hb (dk_at dkX12_isClosed_1 4 rfl) rfl (lv_at hl 0 rfl) ?_
              refine lv_aload_n hx hb (dk_at dkX12_isClosed_1 5 rfl) rfl (lv_at hl 2 rfl) ?_
              refine va_get (D := (dC, dI)) (ci := 12) (v := .ref (q 49)) (C := RX12) (T := TX12) (N := 85) hx hb hts hiX12 hown hK hP 0 wm0 rfl 68 (by decide) (hts _ (List.mem_cons_of_mem _ wlq_6_39)) (fun _ h9 => h9) rfl (dk_at dkX12_isClosed_1 6 rfl) ?_
              refine lv_iload_n hx hb (dk_at dkX12_isClosed_1 7 rfl) rfl (lv_at hl 1 rfl) ?_
              refine x_iald hx hb hK hP 49 1 wm49 rfl (by omega) (by decide) (dk_at dkX12_isClosed_1 8 rfl) (fun z24 hz24 => ?_)
              have rz24 : (0 : Int) ≤ z24 ∧ z24 ≤ 6 := by rw [hz24]; exact hI 49 _
              have gz24 := Hd.mk hz24
              have hz24 : z24 = A 49 (z6).toNat := hz24
              refine lv_icmp_ge (tgt := 69) hx hb (dk_at dkX12_isClosed_1 9 rfl) (by decide) (fun c25 => ?_) (fun c25 => ?_)
              · have c25 : z24 ≤ z16 := (i_le (rb rz24 (by decide) (by decide)) (rb f23 (by decide) (by decide))).mp c25
                refine lv_iinc (v := iI (z6 + 1)) (lv' := [(2, .int (iI (z6 + 1))), (3, .int (iI z16)), (0, .ref (q 0)), (1, .int (iI x1))]) hx hb (dk_at dkX12_isClosed_2 10 rfl) hl (k := 1) rfl (i_inc (by omega)) (by decide) rfl (fun ls hl => ?_)
                refine lv_goto (tgt := 17) hx hb (dk_at dkX12_isClosed_2 11 rfl) (by decide) ?_
                exact ih10 _ (by omega) (z6 + 1) _ _ _ (by omega) (by omega) (fun zq ⟨mm1, hq⟩ => hk2 _ ⟨mm1, 0 + 1, (u_d_X12_isClosed_2 ⟨f23, ⟨z24, gz24.out, (Or.inl ⟨c25, hq⟩)⟩⟩)⟩) rfl hP hS (lv_sub hl [0, 2, 3] rfl)
              · have c25 : ¬ z24 ≤ z16 := mt (i_le (rb rz24 (by decide) (by decide)) (rb f23 (by decide) (by decide))).mpr c25
                refine lv_aload_n hx hb (dk_at dkX12_isClosed_1 10 rfl) rfl (lv_at hl 2 rfl) ?_
                refine va_get (D := (dC, dI)) (ci := 12) (v := .ref (q 15)) (C := RX12) (T := TX12) (N := 85) hx hb hts hiX12 hown hK hP 0 wm0 rfl 26 (by decide) (hts _ (List.mem_cons_of_mem _ wlq_3_7)) (fun _ h9 => h9) rfl (dk_at dkX12_isClosed_1 11 rfl) ?_
                refine lv_bipush (v := iI 10) hx hb (dk_at dkX12_isClosed_1 12 rfl) (by decide +kernel) ?_
                refine lv_aload_n hx hb (dk_at dkX12_isClosed_1 13 rfl) rfl (lv_at hl 2 rfl) ?_
                refine lv_iload_n hx hb (dk_at dkX12_isClosed_1 14 rfl) rfl (lv_at hl 1 rfl) ?_
                refine x_calli (As := [.int (iI z6)]) (rest := [.int (iI 10), .ref (q 15)]) ⟨hx, hb, hml, hown, hts⟩ (mc_X12_key4 l dC dI cB cI cJ cZ cQ q _ z6 hI (by omega)) (cwV 1 hts (goodV wlq_4_44 wlq_4_45 wlq_4_46 wlq_0_8 wlq_4_41) rfl rfl rfl (by decide +kernel) ⟨Nat.le_of_ble_eq_true rfl, Nat.le_of_ble_eq_true rfl⟩) hK hDD hA0 hP hS 0 12 wm0 rfl rfl hl.1 (Nat.le_of_ble_eq_true rfl) (dk_at dkX12_isClosed_1 15 rfl) (fun z26 A27 H locs hw28 hP hS => ?_)
                obtain ⟨rfl, hw28⟩ := hw28
                have ghw28 : q_X12_key4 z6 A z26 := hw28
                have hw28 := hw28.2
                refine tp_i (y := iI (4 * (A 0 12) + z6)) (congrArg iI (show z26 = 4 * (A 0 12) + z6 by omega)) ?_
                clear hw28
                refine x_mulv (v := 40 * (A 0 12) + 10 * z6) hx hb (dk_at dkX12_isClosed_2 0 rfl) (by omega) ?_
                refine lv_iload_n hx hb (dk_at dkX12_isClosed_2 1 rfl) rfl (lv_at hl 0 rfl) ?_
                refine x_addv (v := 40 * (A 0 12) + 10 * z6 + z16) hx hb (dk_at dkX12_isClosed_2 2 rfl) (by omega) ?_
                refine x_iald hx hb hK hP 15 1 wm15 rfl (by omega) (by decide) (dk_at dkX12_isClosed_2 3 rfl) (fun z29 hz29 => ?_)
                have rz29 : (0 : Int) ≤ z29 ∧ z29 ≤ 9 := by rw [hz29]; exact hI 15 _
                have gz29 := Hd.mk hz29
                have hz29 : z29 = A 15 (40 * (A 0 12) + 10 * z6 + z16).toNat := hz29
                refine lv_iload_n hx hb (dk_at dkX12_isClosed_2 4 rfl) rfl (lv_at hl 3 rfl) ?_
                refine lv_icmp_ne (tgt := 63) hx hb (dk_at dkX12_isClosed_2 5 rfl) (by decide) (fun c30 => ?_) (fun c30 => ?_)
                · have c30 : ¬ z29 = x1 := mt (i_eq (rb rz29 (by decide) (by decide)) (rb hx1 (by decide) (by decide))).mpr c30
                  refine lv_iinc (v := iI (z16 + 1)) (lv' := [(3, .int (iI (z16 + 1))), (2, .int (iI z6)), (0, .ref (q 0)), (1, .int (iI x1))]) hx hb (dk_at dkX12_isClosed_2 8 rfl) hl (k := 0) rfl (i_inc (by omega)) (by decide) rfl (fun ls hl => ?_)
                  refine lv_goto (tgt := 32) hx hb (dk_at dkX12_isClosed_2 9 rfl) (by decide) ?_
                  exact ih20 _ (by omega) (z16 + 1) _ _ _ (by omega) (by omega) (fun zq ⟨mm1, mm2, hq⟩ => hk2 _ ⟨mm1, mm2 + 1, (u_d_X12_isClosed_2 ⟨f23, ⟨z24, gz24.out, (Or.inr ⟨c25, ⟨z26, ghw28, ⟨z29, gz29.out, (Or.inl ⟨c30, hq⟩)⟩⟩⟩)⟩⟩)⟩) rfl hP hS (lv_sub hl [0, 1, 2, 3] rfl)
                · have c30 : z29 = x1 := (i_eq (rb rz29 (by decide) (by decide)) (rb hx1 (by decide) (by decide))).mp c30
                  refine lv_iconst (v := iI 1) hx hb (dk_at dkX12_isClosed_2 6 rfl) (by decide +kernel) ?_
                  exact RET 1 _ _ _ _ _ ⟨rfl, hk2 _ ⟨0, 0 + 1, (u_d_X12_isClosed_2 ⟨f23, ⟨z24, gz24.out, (Or.inr ⟨c25, ⟨z26, ghw28, ⟨z29, gz29.out, (Or.inr ⟨c30, rfl⟩)⟩⟩⟩)⟩⟩)⟩, by omega⟩ hP hS (dk_at dkX12_isClosed_2 7 rfl)
          exact L32_19 _ 0 _ _ _ (by omega) (by omega) (fun zq ⟨mm1, mm2, hq⟩ => hk1 _ ⟨mm1 + 1, (u_d_X12_isClosed_1 ⟨f13, ⟨z14, gz14.out, (Or.inr ⟨c15, ⟨mm2, hq⟩⟩)⟩⟩)⟩) rfl hP hS (lv_sub hl [0, 1, 2, 3] rfl)
    exact L17_9 _ 0 _ _ _ (by omega) (by omega) (fun zq ⟨mm1, hq⟩ => (u_r_X12_isClosed ⟨z1, ghw3, ⟨z4, gz4.out, (Or.inl ⟨c5, ⟨mm1, hq⟩⟩)⟩⟩)) rfl hP hS (lv_sub hl [0, 1, 2] rfl)
  · have c5 : ¬ z4 = 0 := mt (i_eq0 (rb rz4 (by decide) (by decide))).mpr c5
    refine lv_iconst (v := iI 1) hx hb (dk_at dkX12_isClosed_0 7 rfl) (by decide +kernel) ?_
    exact RET 1 _ _ _ _ _ ⟨rfl, (u_r_X12_isClosed ⟨z1, ghw3, ⟨z4, gz4.out, (Or.inr ⟨c5, rfl⟩)⟩⟩), by omega⟩ hP hS (dk_at dkX12_isClosed_0 8 rfl)

abbrev tr_d_X12_closedNow_2 (K1 : Int → Int → Prop) (z1 : Int) (z2 : Int) (z : Int) (z18 : Int) : Prop := ((0 ≤ z18 ∧ z18 ≤ 1) ∧ (∃ z22 : Int, z22 = oWrap (z2 + z18) ∧ (K1 (z1 + 1) z22)))
def d_X12_closedNow_2 (K1 : Int → Int → Prop) (z1 : Int) (z2 : Int) (z : Int) (z18 : Int) : Prop := tr_d_X12_closedNow_2 K1 z1 z2 z z18
theorem u_d_X12_closedNow_2 {K1 : Int → Int → Prop} {z1 : Int} {z2 : Int} {z : Int} {z18 : Int} (h : tr_d_X12_closedNow_2 K1 z1 z2 z z18) : d_X12_closedNow_2 K1 z1 z2 z z18 := h
abbrev tr_d_X12_closedNow_1 (A : St) (z : Int) (K1 : Int → Int → Prop) (z1 : Int) (z2 : Int) : Prop := ((0 ≤ z1 ∧ z1 ≤ 2147483647) ∧ ((-2147483648 ≤ z2 ∧ z2 ≤ 2147483647) ∧ (∃ z11 : Int, z11 = A 4 ((A 0 12)).toNat ∧ (((z11 ≤ z1) ∧ (z = z2)) ∨ ((¬ z11 ≤ z1) ∧ (∃ z13 : Int, q_X12_isClosed z1 A z13 ∧ (((z13 = 0) ∧ (d_X12_closedNow_2 K1 z1 z2 z 0)) ∨ ((¬ z13 = 0) ∧ (d_X12_closedNow_2 K1 z1 z2 z 1)))))))))
def d_X12_closedNow_1 (A : St) (z : Int) : Nat → Int → Int → Prop
  | 0, _, _ => False
  | nn9 + 1, z1, z2 => tr_d_X12_closedNow_1 A z (fun z1 z2 => d_X12_closedNow_1 A z nn9 z1 z2) z1 z2
theorem u_d_X12_closedNow_1 {A : St} {z : Int} {nn9 : Nat} {z1 : Int} {z2 : Int} (h : tr_d_X12_closedNow_1 A z (fun z1 z2 => d_X12_closedNow_1 A z nn9 z1 z2) z1 z2) : d_X12_closedNow_1 A z (nn9 + 1) z1 z2 := h
abbrev tr_r_X12_closedNow (A : St) (z : Int) : Prop := (∃ nn9 : Nat, d_X12_closedNow_1 A z nn9 0 0)
def r_X12_closedNow (A : St) (z : Int) : Prop := tr_r_X12_closedNow A z
theorem u_r_X12_closedNow {A : St} {z : Int} (h : tr_r_X12_closedNow A z) : r_X12_closedNow A z := h
def q_X12_closedNow (A : St) (z : Int) : Prop := r_X12_closedNow A z ∧ (-2147483648 ≤ z ∧ z ≤ 2147483647)
def ws_mc_X12_closedNow : List Cond := .code yX12_closedNow cX12_closedNow 3 (some .int) :: WX
set_option maxHeartbeats 4000000 in
set_option maxRecDepth 100000 in
theorem mc_X12_closedNow (l : Launch) (dC : Nat → ClassId) (dI : Nat → Nat → Nat) (cB cI cJ cZ cQ : ClassId) (q : Nat → Nat) (A : St) (hI : IM A) : XMi l yX12_closedNow ws_mc_X12_closedNow ({ frames := 2, cells := 0, slots := 0, locals := 44 } : Room) (dC, dI) (tyA cB cI cJ cZ cQ) (WM cI cJ cZ q) A [.ref (q 0)] (fun z u => A = u ∧ r_X12_closedNow A z ∧ (-2147483648 ≤ z ∧ z ≤ 2147483647)) := by
  refine x_meti (cc := cX12_closedNow) (maxL := 3) WM_adr (by decide +kernel) rfl (Nat.le_of_ble_eq_true rfl) (fun p e s m below meth c Q AS ls hx hb hml hown hts hK hDD hA0 hP hS hl RET => ?_)
  have hown : s.vm.findClass RX12 = some m.cls := hown
  have hl : lv_has ls 3 [(0, .ref (q 0))] := hl
  have hiX12 : ∀ w ∈ u_ws RX12 TX12 85, w ∈ ws_mc_X12_closedNow := fun w h => List.mem_cons_of_mem _ (wx_lay w h)
  obtain ⟨H, hHe⟩ : ∃ H : Heap, H = s.heap := ⟨_, rfl⟩
  rw [← hHe] at hP
  have hS : va_S AS s.heap H [] := by rw [hHe]; exact hS
  suffices hgo : ∀ locs : List Loc, va_S AS s.heap H locs → W p l e (headSpec ws_mc_X12_closedNow ({ frames := 2, cells := 0, slots := 0, locals := 44 } : Room)).room s m [.ref (q 0)].toArray below meth c H locs 0 0 Q (F0 m 0 ls []) by
    have := hgo [] hS
    rw [hHe] at this
    exact this
  clear hS hHe
  intro locs hS
  refine lv_iconst (v := iI 0) hx hb (dk_at dkX12_closedNow_0 0 rfl) (by decide +kernel) ?_
  refine lv_istore_n (lv' := [(1, .int (iI 0)), (0, .ref (q 0))]) hx hb (dk_at dkX12_closedNow_0 1 rfl) rfl hl (by decide) rfl (fun ls hl => ?_)
  refine lv_iconst (v := iI 0) hx hb (dk_at dkX12_closedNow_0 2 rfl) (by decide +kernel) ?_
  refine lv_istore_n (lv' := [(2, .int (iI 0)), (1, .int (iI 0)), (0, .ref (q 0))]) hx hb (dk_at dkX12_closedNow_0 3 rfl) rfl hl (by decide) rfl (fun ls hl => ?_)
  have L4_5 : ∀ (n7 : Nat) (z1 z2 : Int) (H : Heap) (locs : List Loc) (ls : Array Slot), (0 ≤ z1) → (0 ≤ z1 ∧ z1 ≤ 2147483647) → (-2147483648 ≤ z2 ∧ z2 ≤ 2147483647) → (∀ (z : Int), (∃ mm1 : Nat, (d_X12_closedNow_1 A z mm1 z1 z2)) → r_X12_closedNow A z) → ((A 4 ((A 0 12)).toNat - z1 + 1).toNat = n7) → va_P (dC, dI) vwCl (WM cI cJ cZ q A) H → va_S AS s.heap H locs → lv_has ls 3 [(2, .int (iI z1)), (1, .int (iI z2)), (0, .ref (q 0))] → W p l e (headSpec ws_mc_X12_closedNow ({ frames := 2, cells := 0, slots := 0, locals := 44 } : Room)).room s m [.ref (q 0)].toArray below meth c H locs 0 0 Q (F0 m 4 ls []) := by
    intro n7
    induction n7 using Nat.strongRecOn with
    | ind n7 ih6 =>
      intro z1 z2 H locs ls f8 f9 f10 hk1 hn7 hP hS hl
      refine lv_iload_n hx hb (dk_at dkX12_closedNow_0 4 rfl) rfl (lv_at hl 0 rfl) ?_
      refine lv_aload_n hx hb (dk_at dkX12_closedNow_0 5 rfl) rfl (lv_at hl 2 rfl) ?_
      refine va_get (D := (dC, dI)) (ci := 12) (v := .ref (q 4)) (C := RX12) (T := TX12) (N := 85) hx hb hts hiX12 hown hK hP 0 wm0 rfl 15 (by decide) (hts _ (List.mem_cons_of_mem _ wlq_1_13)) (fun _ h9 => h9) rfl (dk_at dkX12_closedNow_0 6 rfl) ?_
      refine lv_aload_n hx hb (dk_at dkX12_closedNow_0 7 rfl) rfl (lv_at hl 2 rfl) ?_
      refine va_get (D := (dC, dI)) (ci := 12) (v := .int (iI (A 0 12))) (C := RX12) (T := TX12) (N := 85) hx hb hts hiX12 hown hK hP 0 wm0 rfl 12 (by decide) (hts _ (List.mem_cons_of_mem _ wlq_4_14)) (fun _ h9 => h9) rfl (dk_at dkX12_closedNow_0 8 rfl) ?_
      have r_A_0_12 : (0 : Int) ≤ (A 0 12) ∧ (A 0 12) ≤ 1 := hI 0 12
      refine x_iald hx hb hK hP 4 1 wm4 rfl (by omega) (by decide) (dk_at dkX12_closedNow_0 9 rfl) (fun z11 hz11 => ?_)
      have rz11 : (0 : Int) ≤ z11 ∧ z11 ≤ 10 := by rw [hz11]; exact hI 4 _
      have gz11 := Hd.mk hz11
      have hz11 : z11 = A 4 ((A 0 12)).toNat := hz11
      refine lv_icmp_ge (tgt := 39) hx hb (dk_at dkX12_closedNow_0 10 rfl) (by decide) (fun c12 => ?_) (fun c12 => ?_)
      · have c12 : z11 ≤ z1 := (i_le (rb rz11 (by decide) (by decide)) (rb f9 (by decide) (by decide))).mp c12
        refine lv_iload_n hx hb (dk_at dkX12_closedNow_1 7 rfl) rfl (lv_at hl 1 rfl) ?_
        exact RET z2 _ _ _ _ _ ⟨rfl, hk1 _ ⟨0 + 1, (u_d_X12_closedNow_1 ⟨f9, ⟨f10, ⟨z11, gz11.out, (Or.inl ⟨c12, rfl⟩)⟩⟩⟩)⟩, by omega⟩ hP hS (dk_at dkX12_closedNow_1 8 rfl)
      · have c12 : ¬ z11 ≤ z1 := mt (i_le (rb rz11 (by decide) (by decide)) (rb f9 (by decide) (by decide))).mpr c12
        refine lv_iload_n hx hb (dk_at dkX12_closedNow_0 11 rfl) rfl (lv_at hl 1 rfl) ?_
        refine lv_aload_n hx hb (dk_at dkX12_closedNow_0 12 rfl) rfl (lv_at hl 2 rfl) ?_
        refine lv_iload_n hx hb (dk_at dkX12_closedNow_0 13 rfl) rfl (lv_at hl 0 rfl) ?_
        refine x_calli (As := [.int (iI z1)]) (rest := [.int (iI z2)]) ⟨hx, hb, hml, hown, hts⟩ (mc_X12_isClosed l dC dI cB cI cJ cZ cQ q _ z1 hI (by omega)) (cwV 1 hts (goodV wlq_6_44 wlq_6_45 wlq_6_46 wlq_0_8 wlq_6_42) rfl rfl rfl (by decide +kernel) ⟨Nat.le_of_ble_eq_true rfl, Nat.le_of_ble_eq_true rfl⟩) hK hDD hA0 hP hS 0 12 wm0 rfl rfl hl.1 (Nat.le_of_ble_eq_true rfl) (dk_at dkX12_closedNow_0 14 rfl) (fun z13 A14 H locs hw15 hP hS => ?_)
        obtain ⟨rfl, hw15⟩ := hw15
        have ghw15 : q_X12_isClosed z1 A z13 := hw15
        have hw15 := hw15.2
        have J31_17 : ∀ (z18 : Int) (H : Heap) (locs : List Loc) (ls : Array Slot), (0 ≤ z18 ∧ z18 ≤ 1) → ((z18 = 0 ∧ z13 = 0) ∨ (z18 = 1 ∧ ¬ z13 = 0)) → (∀ (z : Int), (∃ mm1 : Nat, (d_X12_closedNow_2 (fun z1' z2' => d_X12_closedNow_1 A z mm1 z1' z2') z1 z2 z z18)) → r_X12_closedNow A z) → va_P (dC, dI) vwCl (WM cI cJ cZ q A) H → va_S AS s.heap H locs → lv_has ls 3 [(2, .int (iI z1)), (1, .int (iI z2)), (0, .ref (q 0))] → W p l e (headSpec ws_mc_X12_closedNow ({ frames := 2, cells := 0, slots := 0, locals := 44 } : Room)).room s m [.ref (q 0)].toArray below meth c H locs 0 0 Q (F0 m 31 ls [.int (iI z18), .int (iI z2)]) := by
          intro z18 H locs ls f20 f21 hk2 hP hS hl
          refine x_addv (v := z2 + z18) hx hb (dk_at dkX12_closedNow_1 3 rfl) (by omega) ?_
          refine x_absE (fun z22 gz22 hz22 => ?_)
          refine lv_istore_n (lv' := [(1, .int (iI z22)), (2, .int (iI z1)), (0, .ref (q 0))]) hx hb (dk_at dkX12_closedNow_1 4 rfl) rfl hl (by decide) rfl (fun ls hl => ?_)
          refine lv_iinc (v := iI (z1 + 1)) (lv' := [(2, .int (iI (z1 + 1))), (1, .int (iI z22)), (0, .ref (q 0))]) hx hb (dk_at dkX12_closedNow_1 5 rfl) hl (k := 1) rfl (i_inc (by omega)) (by decide) rfl (fun ls hl => ?_)
          refine lv_goto (tgt := 4) hx hb (dk_at dkX12_closedNow_1 6 rfl) (by decide) ?_
          exact ih6 _ (by omega) (z1 + 1) z22 _ _ _ (by omega) (by omega) (by omega) (fun zq ⟨mm1, hq⟩ => hk2 _ ⟨mm1, (u_d_X12_closedNow_2 ⟨f20, ⟨z22, gz22.out, hq⟩⟩)⟩) rfl hP hS (lv_sub hl [0, 1, 2] rfl)
        refine lv_if_eq (tgt := 30) hx hb (dk_at dkX12_closedNow_0 15 rfl) (by decide) (fun c16 => ?_) (fun c16 => ?_)
        · have c16 : z13 = 0 := (i_eq0 (rb hw15 (by decide) (by decide))).mp c16
          refine lv_iconst (v := iI 0) hx hb (dk_at dkX12_closedNow_1 2 rfl) (by decide +kernel) ?_
          exact J31_17 0 _ _ _ (by omega) (by omega) (fun zq ⟨mm1, hq⟩ => hk1 _ ⟨mm1 + 1, (u_d_X12_closedNow_1 ⟨f9, ⟨f10, ⟨z11, gz11.out, (Or.inr ⟨c12, ⟨z13, ghw15, (Or.inl ⟨c16, hq⟩)⟩⟩)⟩⟩⟩)⟩) hP hS (lv_sub hl [0, 1, 2] rfl)
        · have c16 : ¬ z13 = 0 := mt (i_eq0 (rb hw15 (by decide) (by decide))).mpr c16
          refine lv_iconst (v := iI 1) hx hb (dk_at dkX12_closedNow_1 0 rfl) (by decide +kernel) ?_
          refine lv_goto (tgt := 31) hx hb (dk_at dkX12_closedNow_1 1 rfl) (by decide) ?_
          exact J31_17 1 _ _ _ (by omega) (by omega) (fun zq ⟨mm1, hq⟩ => hk1 _ ⟨mm1 + 1, (u_d_X12_closedNow_1 ⟨f9, ⟨f10, ⟨z11, gz11.out, (Or.inr ⟨c12, ⟨z13, ghw15, (Or.inr ⟨c16, hq⟩)⟩⟩)⟩⟩⟩)⟩) hP hS (lv_sub hl [0, 1, 2] rfl)
  exact L4_5 _ 0 0 _ _ _ (by omega) (by omega) (by omega) (fun zq ⟨mm1, hq⟩ => (u_r_X12_closedNow ⟨mm1, hq⟩)) rfl hP hS (lv_sub hl [0, 1, 2] rfl)

abbrev tr_d_X12_haves_4 (K1 : Int → St → Prop) (z1 : Int) (A3 : St) (u : St) (z34 : Int) : Prop := ((0 ≤ z34 ∧ z34 ≤ 2) ∧ (∃ z37 : Int, z37 = oOr (A3 0 69) z34 ∧ (∃ A38 : St, A38 = (stA A3 0 69 z37) ∧ (K1 (z1 + 1) A38))))
def d_X12_haves_4 (K1 : Int → St → Prop) (z1 : Int) (A3 : St) (u : St) (z34 : Int) : Prop := tr_d_X12_haves_4 K1 z1 A3 u z34
theorem u_d_X12_haves_4 {K1 : Int → St → Prop} {z1 : Int} {A3 : St} {u : St} {z34 : Int} (h : tr_d_X12_haves_4 K1 z1 A3 u z34) : d_X12_haves_4 K1 z1 A3 u z34 := h
abbrev tr_d_X12_haves_3 (K1 : Int → St → Prop) (z1 : Int) (A3 : St) (u : St) (z27 : Int) : Prop := ((0 ≤ z27 ∧ z27 ≤ 1) ∧ (((z27 = 0) ∧ (d_X12_haves_4 K1 z1 A3 u 0)) ∨ ((¬ z27 = 0) ∧ (∃ z33 : Int, z33 = oShl 1 z1 ∧ (d_X12_haves_4 K1 z1 A3 u z33)))))
def d_X12_haves_3 (K1 : Int → St → Prop) (z1 : Int) (A3 : St) (u : St) (z27 : Int) : Prop := tr_d_X12_haves_3 K1 z1 A3 u z27
theorem u_d_X12_haves_3 {K1 : Int → St → Prop} {z1 : Int} {A3 : St} {u : St} {z27 : Int} (h : tr_d_X12_haves_3 K1 z1 A3 u z27) : d_X12_haves_3 K1 z1 A3 u z27 := h
abbrev tr_d_X12_haves_2 (K1 : Int → St → Prop) (z1 : Int) (A3 : St) (u : St) : Prop := (d_X12_haves_3 K1 z1 A3 u 0)
def d_X12_haves_2 (K1 : Int → St → Prop) (z1 : Int) (A3 : St) (u : St) : Prop := tr_d_X12_haves_2 K1 z1 A3 u
theorem u_d_X12_haves_2 {K1 : Int → St → Prop} {z1 : Int} {A3 : St} {u : St} (h : tr_d_X12_haves_2 K1 z1 A3 u) : d_X12_haves_2 K1 z1 A3 u := h
abbrev tr_d_X12_haves_1 (A : St) (u : St) (K1 : Int → St → Prop) (z1 : Int) (A3 : St) : Prop := ((IM A3) ∧ ((0 ≤ z1 ∧ z1 ≤ 2147483647) ∧ ((((A 0 73) ≤ z1) ∧ (u = A3)) ∨ ((¬ (A 0 73) ≤ z1) ∧ (∃ z11 : Int, z11 = A3 50 (z1).toNat ∧ (∃ z12 : Int, z12 = A3 21 (4 * (A 0 12) + z11).toNat ∧ (((20 ≤ z12) ∧ (∃ z15 : Int, q_X12_door10 (z12 - 20) A3 z15 ∧ (∃ z18 : Int, z18 = A3 6 (10 * (A 0 12) + z12 - 20).toNat ∧ (((¬ z18 = (A 0 67)) ∧ (d_X12_haves_2 K1 z1 A3 u)) ∨ ((z18 = (A 0 67)) ∧ (∃ z21 : Int, q_X12_isClosed (z12 - 20) A3 z21 ∧ (((¬ z21 = 0) ∧ (d_X12_haves_2 K1 z1 A3 u)) ∨ ((z21 = 0) ∧ (d_X12_haves_3 K1 z1 A3 u 1))))))))) ∨ ((¬ 20 ≤ z12) ∧ (((¬ z12 - 10 = (A 0 67)) ∧ (d_X12_haves_3 K1 z1 A3 u 0)) ∨ ((z12 - 10 = (A 0 67)) ∧ (d_X12_haves_3 K1 z1 A3 u 1)))))))))))
def d_X12_haves_1 (A : St) (u : St) : Nat → Int → St → Prop
  | 0, _, _ => False
  | nn9 + 1, z1, A3 => tr_d_X12_haves_1 A u (fun z1 A3 => d_X12_haves_1 A u nn9 z1 A3) z1 A3
theorem u_d_X12_haves_1 {A : St} {u : St} {nn9 : Nat} {z1 : Int} {A3 : St} (h : tr_d_X12_haves_1 A u (fun z1 A3 => d_X12_haves_1 A u nn9 z1 A3) z1 A3) : d_X12_haves_1 A u (nn9 + 1) z1 A3 := h
abbrev tr_r_X12_haves (A : St) (u : St) : Prop := (∃ nn9 : Nat, d_X12_haves_1 A u nn9 0 A)
def r_X12_haves (A : St) (u : St) : Prop := tr_r_X12_haves A u
theorem u_r_X12_haves {A : St} {u : St} (h : tr_r_X12_haves A u) : r_X12_haves A u := h
def q_X12_haves (A : St) (u : St) : Prop := r_X12_haves A u ∧ IM u ∧ fr [] [69] A u ∧ (True)
def ws_mc_X12_haves : List Cond := .code yX12_haves cX12_haves 4 none :: WX
set_option maxHeartbeats 4000000 in
set_option maxRecDepth 100000 in
theorem mc_X12_haves (l : Launch) (dC : Nat → ClassId) (dI : Nat → Nat → Nat) (cB cI cJ cZ cQ : ClassId) (q : Nat → Nat) (A : St) (hI : IM A) : XMv l yX12_haves ws_mc_X12_haves ({ frames := 2, cells := 0, slots := 0, locals := 44 } : Room) (dC, dI) (tyA cB cI cJ cZ cQ) (WM cI cJ cZ q) A [.ref (q 0)] (fun u => r_X12_haves A u ∧ IM u ∧ fr [] [69] A u ∧ (True)) := by
  refine x_metv (cc := cX12_haves) (maxL := 4) WM_adr (by decide +kernel) rfl (Nat.le_of_ble_eq_true rfl) (fun p e s m below meth c Q AS ls hx hb hml hown hts hK hDD hA0 hP hS hl RET => ?_)
  have hown : s.vm.findClass RX12 = some m.cls := hown
  have hl : lv_has ls 4 [(0, .ref (q 0))] := hl
  have hiX12 : ∀ w ∈ u_ws RX12 TX12 85, w ∈ ws_mc_X12_haves := fun w h => List.mem_cons_of_mem _ (wx_lay w h)
  obtain ⟨H, hHe⟩ : ∃ H : Heap, H = s.heap := ⟨_, rfl⟩
  rw [← hHe] at hP
  have hS : va_S AS s.heap H [] := by rw [hHe]; exact hS
  suffices hgo : ∀ locs : List Loc, va_S AS s.heap H locs → W p l e (headSpec ws_mc_X12_haves ({ frames := 2, cells := 0, slots := 0, locals := 44 } : Room)).room s m [.ref (q 0)].toArray below meth c H locs 0 0 Q (F0 m 0 ls []) by
    have := hgo [] hS
    rw [hHe] at this
    exact this
  clear hS hHe
  intro locs hS
  refine lv_iconst (v := iI 0) hx hb (dk_at dkX12_haves_0 0 rfl) (by decide +kernel) ?_
  refine lv_istore_n (lv' := [(1, .int (iI 0)), (0, .ref (q 0))]) hx hb (dk_at dkX12_haves_0 1 rfl) rfl hl (by decide) rfl (fun ls hl => ?_)
  have L2_4 : ∀ (n6 : Nat) (z1 : Int) (A3 : St) (H : Heap) (locs : List Loc) (ls : Array Slot), (0 ≤ z1) → (0 ≤ z1 ∧ z1 ≤ 2147483647) → (∀ (u : St), (∃ mm1 : Nat, (d_X12_haves_1 A u mm1 z1 A3)) → r_X12_haves A u) → (((A 0 73) - z1 + 1).toNat = n6) → IM A3 → fr [] [69] A A3 → va_P (dC, dI) vwCl (WM cI cJ cZ q A3) H → va_S AS s.heap H locs → lv_has ls 4 [(1, .int (iI z1)), (0, .ref (q 0))] → W p l e (headSpec ws_mc_X12_haves ({ frames := 2, cells := 0, slots := 0, locals := 44 } : Room)).room s m [.ref (q 0)].toArray below meth c H locs 0 0 Q (F0 m 2 ls []) := by
    intro n6
    induction n6 using Nat.strongRecOn with
    | ind n6 ih5 =>
      intro z1 A3 H locs ls f7 f8 hk1 hn6 hI hj2 hP hS hl
      have gI9 : Hd (IM A3) := Hd.mk hI
      refine lv_iload_n hx hb (dk_at dkX12_haves_0 2 rfl) rfl (lv_at hl 0 rfl) ?_
      refine lv_aload_n hx hb (dk_at dkX12_haves_0 3 rfl) rfl (lv_at hl 1 rfl) ?_
      have e_A3_73 : A3 0 73 = (A 0 73) := (hj2.2 73 rfl)
      refine va_get (D := (dC, dI)) (ci := 12) (v := .int (iI (A3 0 73))) (C := RX12) (T := TX12) (N := 85) hx hb hts hiX12 hown hK hP 0 wm0 rfl 73 (by decide) (hts _ (List.mem_cons_of_mem _ wlq_6_48)) (fun _ h9 => h9) rfl (dk_at dkX12_haves_0 4 rfl) ?_
      refine tp_i (y := iI (A 0 73)) (congrArg iI e_A3_73) ?_
      have r_A_0_73 : (0 : Int) ≤ (A 0 73) ∧ (A 0 73) ≤ 2 := by rw [← e_A3_73]; exact hI 0 73
      refine lv_icmp_ge (tgt := 117) hx hb (dk_at dkX12_haves_0 5 rfl) (by decide) (fun c10 => ?_) (fun c10 => ?_)
      · have c10 : (A 0 73) ≤ z1 := (i_le (rb r_A_0_73 (by decide) (by decide)) (rb f8 (by decide) (by decide))).mp c10
        exact RET _ _ _ _ _ ⟨hk1 _ ⟨0 + 1, (u_d_X12_haves_1 ⟨gI9.out, ⟨f8, (Or.inl ⟨c10, rfl⟩)⟩⟩)⟩, hI, fr.trans (fr.rf) hj2 rfl rfl, trivial⟩ hP hS (dk_at dkX12_haves_4 3 rfl)
      · have c10 : ¬ (A 0 73) ≤ z1 := mt (i_le (rb r_A_0_73 (by decide) (by decide)) (rb f8 (by decide) (by decide))).mpr c10
        refine lv_aload_n hx hb (dk_at dkX12_haves_0 6 rfl) rfl (lv_at hl 1 rfl) ?_
        refine va_get (D := (dC, dI)) (ci := 12) (v := .ref (q 21)) (C := RX12) (T := TX12) (N := 85) hx hb hts hiX12 hown hK hP 0 wm0 rfl 32 (by decide) (hts _ (List.mem_cons_of_mem _ wlq_3_14)) (fun _ h9 => h9) rfl (dk_at dkX12_haves_0 7 rfl) ?_
        refine lv_iconst (v := iI 4) hx hb (dk_at dkX12_haves_0 8 rfl) (by decide +kernel) ?_
        refine lv_aload_n hx hb (dk_at dkX12_haves_0 9 rfl) rfl (lv_at hl 1 rfl) ?_
        have e_A3_12 : A3 0 12 = (A 0 12) := (hj2.2 12 rfl)
        refine va_get (D := (dC, dI)) (ci := 12) (v := .int (iI (A3 0 12))) (C := RX12) (T := TX12) (N := 85) hx hb hts hiX12 hown hK hP 0 wm0 rfl 12 (by decide) (hts _ (List.mem_cons_of_mem _ wlq_4_14)) (fun _ h9 => h9) rfl (dk_at dkX12_haves_0 10 rfl) ?_
        refine tp_i (y := iI (A 0 12)) (congrArg iI e_A3_12) ?_
        have r_A_0_12 : (0 : Int) ≤ (A 0 12) ∧ (A 0 12) ≤ 1 := by rw [← e_A3_12]; exact hI 0 12
        refine x_mulv (v := 4 * (A 0 12)) hx hb (dk_at dkX12_haves_0 11 rfl) (by omega) ?_
        refine lv_aload_n hx hb (dk_at dkX12_haves_0 12 rfl) rfl (lv_at hl 1 rfl) ?_
        refine va_get (D := (dC, dI)) (ci := 12) (v := .ref (q 50)) (C := RX12) (T := TX12) (N := 85) hx hb hts hiX12 hown hK hP 0 wm0 rfl 72 (by decide) (hts _ (List.mem_cons_of_mem _ wlq_6_49)) (fun _ h9 => h9) rfl (dk_at dkX12_haves_0 13 rfl) ?_
        refine lv_iload_n hx hb (dk_at dkX12_haves_0 14 rfl) rfl (lv_at hl 0 rfl) ?_
        have a_A3_50 : A3 50 = A 50 := (hj2.1 50 (by decide) rfl)
        refine x_iald hx hb hK hP 50 1 wm50 rfl (by omega) (by decide) (dk_at dkX12_haves_0 15 rfl) (fun z11 hz11 => ?_)
        have rz11 : (0 : Int) ≤ z11 ∧ z11 ≤ 3 := by rw [hz11]; exact hI 50 _
        have gz11 := Hd.mk hz11
        have hz11 : z11 = A 50 (z1).toNat := hz11.trans (congrFun a_A3_50 _)
        refine x_addv (v := 4 * (A 0 12) + z11) hx hb (dk_at dkX12_haves_1 0 rfl) (by omega) ?_
        have a_A3_21 : A3 21 = A 21 := (hj2.1 21 (by decide) rfl)
        refine x_iald hx hb hK hP 21 1 wm21 rfl (by omega) (by decide) (dk_at dkX12_haves_1 1 rfl) (fun z12 hz12 => ?_)
        have rz12 : (0 : Int) ≤ z12 ∧ z12 ≤ 29 := by rw [hz12]; exact hI 21 _
        have gz12 := Hd.mk hz12
        have hz12 : z12 = A 21 (4 * (A 0 12) + z11).toNat := hz12.trans (congrFun a_A3_21 _)
        refine lv_istore_n (lv' := [(2, .int (iI z12)), (1, .int (iI z1)), (0, .ref (q 0))]) hx hb (dk_at dkX12_haves_1 2 rfl) rfl hl (by decide) rfl (fun ls hl => ?_)
        refine lv_iload_n hx hb (dk_at dkX12_haves_1 3 rfl) rfl (lv_at hl 0 rfl) ?_
        refine lv_bipush (v := iI 20) hx hb (dk_at dkX12_haves_1 4 rfl) (by decide +kernel) ?_
        have J90_14 : ∀ (z27 : Int) (H : Heap) (locs : List Loc) (ls : Array Slot), (0 ≤ z27 ∧ z27 ≤ 1) → ((z27 = 1 ∧ 20 ≤ z12) ∨ (z27 = 0 ∧ 20 ≤ z12) ∨ (z27 = 0 ∧ ¬ 20 ≤ z12 ∧ ¬ z12 - 10 = (A 0 67)) ∨ (z27 = 1 ∧ ¬ 20 ≤ z12 ∧ z12 - 10 = (A 0 67))) → (∀ (u : St), (∃ mm1 : Nat, (d_X12_haves_3 (fun z1' A3' => d_X12_haves_1 A u mm1 z1' A3') z1 A3 u z27)) → r_X12_haves A u) → va_P (dC, dI) vwCl (WM cI cJ cZ q A3) H → va_S AS s.heap H locs → lv_has ls 4 [(2, .int (iI z12)), (1, .int (iI z1)), (0, .ref (q 0))] → W p l e (headSpec ws_mc_X12_haves ({ frames := 2, cells := 0, slots := 0, locals := 44 } : Room)).room s m [.ref (q 0)].toArray below meth c H locs 0 0 Q (F0 m 90 ls [.int (iI z27)]) := by
          intro z27 H locs ls f29 f30 hk3 hP hS hl
          refine lv_istore_n (lv' := [(3, .int (iI z27)), (2, .int (iI z12)), (1, .int (iI z1)), (0, .ref (q 0))]) hx hb (dk_at dkX12_haves_3 4 rfl) rfl hl (by decide) rfl (fun ls hl => ?_)
          refine lv_aload_n hx hb (dk_at dkX12_haves_3 5 rfl) rfl (lv_at hl 3 rfl) ?_
          refine lv_dup hx hb (dk_at dkX12_haves_3 6 rfl) rfl ?_
          refine va_get (D := (dC, dI)) (ci := 12) (v := .int (iI (A3 0 69))) (C := RX12) (T := TX12) (N := 85) hx hb hts hiX12 hown hK hP 0 wm0 rfl 69 (by decide) (hts _ (List.mem_cons_of_mem _ wlq_6_40)) (fun _ h9 => h9) rfl (dk_at dkX12_haves_3 7 rfl) ?_
          have r_A3_0_69 : (0 : Int) ≤ (A3 0 69) ∧ (A3 0 69) ≤ 3 := hI 0 69
          refine lv_iload_n hx hb (dk_at dkX12_haves_3 8 rfl) rfl (lv_at hl 0 rfl) ?_
          have J107_32 : ∀ (z34 : Int) (H : Heap) (locs : List Loc) (ls : Array Slot), (0 ≤ z34 ∧ z34 ≤ 2) → (∀ (u : St), (∃ mm1 : Nat, (d_X12_haves_4 (fun z1' A3' => d_X12_haves_1 A u mm1 z1' A3') z1 A3 u z34)) → r_X12_haves A u) → va_P (dC, dI) vwCl (WM cI cJ cZ q A3) H → va_S AS s.heap H locs → lv_has ls 4 [(3, .int (iI z27)), (2, .int (iI z12)), (1, .int (iI z1)), (0, .ref (q 0))] → W p l e (headSpec ws_mc_X12_haves ({ frames := 2, cells := 0, slots := 0, locals := 44 } : Room)).room s m [.ref (q 0)].toArray below meth c H locs 0 0 Q (F0 m 107 ls [.int (iI z34), .int (iI (A3 0 69)), .ref (q 0)]) := by
            intro z34 H locs ls f36 hk4 hP hS hl
            refine lv_ior hx hb (dk_at dkX12_haves_3 15 rfl) ?_
            refine x_orE 2 (by decide) (by omega) (by omega) (fun z37 gz37 hz37 => ?_)
            refine x_put (D := (dC, dI)) (ci := 12) (v := .int (iI z37)) (ty := .int) (C := RX12) (T := TX12) (N := 85) hx hb hts hiX12 tyX12 tyX12_ok nmX12 hown hK hP hDD hS 0 wm0 rfl 69 (by decide) (hts _ (List.mem_cons_of_mem _ wlq_6_40)) (fun _ h9 => h9) rfl (by decide +kernel) rfl rfl (Nat.le_of_ble_eq_true rfl) (dk_at dkX12_haves_4 0 rfl) (wf69 (v := z37)) (fun H locs hP hS => ?_)
            have hI := hI.st (j := 0) (i := 69) (v := z37) (show (0 : Int) ≤ z37 ∧ z37 ≤ 3 from (by omega))
            refine lv_iinc (v := iI (z1 + 1)) (lv' := [(1, .int (iI (z1 + 1))), (3, .int (iI z27)), (2, .int (iI z12)), (0, .ref (q 0))]) hx hb (dk_at dkX12_haves_4 1 rfl) hl (k := 2) rfl (i_inc (by omega)) (by decide) rfl (fun ls hl => ?_)
            refine lv_goto (tgt := 2) hx hb (dk_at dkX12_haves_4 2 rfl) (by decide) ?_
            obtain ⟨A38, hA38⟩ : ∃ A38 : St, A38 = (stA A3 0 69 z37) := ⟨_, rfl⟩
            rw [← hA38] at hP hI
            exact ih5 _ (by omega) (z1 + 1) _ _ _ _ (by omega) (by omega) (fun uq ⟨mm1, hq⟩ => hk4 _ ⟨mm1, (u_d_X12_haves_4 ⟨f36, ⟨z37, gz37.out, ⟨A38, hA38, hq⟩⟩⟩)⟩) rfl hI (fr_def hA38 (fr.sf (fr.trans (fr.rf) hj2 rfl rfl) rfl)) hP hS (lv_sub hl [0, 3] rfl)
          refine lv_if_eq (tgt := 106) hx hb (dk_at dkX12_haves_3 9 rfl) (by decide) (fun c31 => ?_) (fun c31 => ?_)
          · have c31 : z27 = 0 := (i_eq0 (rb f29 (by decide) (by decide))).mp c31
            refine lv_iconst (v := iI 0) hx hb (dk_at dkX12_haves_3 14 rfl) (by decide +kernel) ?_
            exact J107_32 0 _ _ _ (by omega) (fun uq ⟨mm1, hq⟩ => hk3 _ ⟨mm1, (u_d_X12_haves_3 ⟨f29, (Or.inl ⟨c31, hq⟩)⟩)⟩) hP hS (lv_sub hl [0, 1, 2, 3] rfl)
          · have c31 : ¬ z27 = 0 := mt (i_eq0 (rb f29 (by decide) (by decide))).mpr c31
            refine lv_iconst (v := iI 1) hx hb (dk_at dkX12_haves_3 10 rfl) (by decide +kernel) ?_
            refine lv_iload_n hx hb (dk_at dkX12_haves_3 11 rfl) rfl (lv_at hl 2 rfl) ?_
            refine x_shl1E (M := 1) (t := 2) hx hb (dk_at dkX12_haves_3 12 rfl) (by omega) (by decide) (by decide) (fun z33 gz33 hz33 => ?_)
            refine lv_goto (tgt := 107) hx hb (dk_at dkX12_haves_3 13 rfl) (by decide) ?_
            exact J107_32 z33 _ _ _ (by omega) (fun uq ⟨mm1, hq⟩ => hk3 _ ⟨mm1, (u_d_X12_haves_3 ⟨f29, (Or.inr ⟨c31, ⟨z33, gz33.out, hq⟩⟩)⟩)⟩) hP hS (lv_sub hl [0, 1, 2, 3] rfl)
        refine lv_icmp_ge (tgt := 54) hx hb (dk_at dkX12_haves_1 5 rfl) (by decide) (fun c13 => ?_) (fun c13 => ?_)
        · have c13 : 20 ≤ z12 := (i_le ⟨by decide, by decide⟩ (rb rz12 (by decide) (by decide))).mp c13
          refine lv_aload_n hx hb (dk_at dkX12_haves_2 0 rfl) rfl (lv_at hl 2 rfl) ?_
          refine va_get (D := (dC, dI)) (ci := 12) (v := .ref (q 6)) (C := RX12) (T := TX12) (N := 85) hx hb hts hiX12 hown hK hP 0 wm0 rfl 17 (by decide) (hts _ (List.mem_cons_of_mem _ wlq_2_39)) (fun _ h9 => h9) rfl (dk_at dkX12_haves_2 1 rfl) ?_
          refine lv_aload_n hx hb (dk_at dkX12_haves_2 2 rfl) rfl (lv_at hl 2 rfl) ?_
          refine lv_iload_n hx hb (dk_at dkX12_haves_2 3 rfl) rfl (lv_at hl 0 rfl) ?_
          refine lv_bipush (v := iI 20) hx hb (dk_at dkX12_haves_2 4 rfl) (by decide +kernel) ?_
          refine x_subv (v := z12 - 20) hx hb (dk_at dkX12_haves_2 5 rfl) (by omega) ?_
          refine x_calli (As := [.int (iI (z12 - 20))]) (rest := [.ref (q 6)]) ⟨hx, hb, hml, hown, hts⟩ (mc_X12_door10 l dC dI cB cI cJ cZ cQ q _ (z12 - 20) hI (by omega)) (cwV 1 hts (goodV wlq_4_49 wlq_4_50 wlq_4_51 wlq_0_8 wlq_4_42) rfl rfl rfl (by decide +kernel) ⟨Nat.le_of_ble_eq_true rfl, Nat.le_of_ble_eq_true rfl⟩) hK hDD hA0 hP hS 0 12 wm0 rfl rfl hl.1 (Nat.le_of_ble_eq_true rfl) (dk_at dkX12_haves_2 6 rfl) (fun z15 A16 H locs hw17 hP hS => ?_)
          obtain ⟨rfl, hw17⟩ := hw17
          have ghw17 : q_X12_door10 (z12 - 20) A3 z15 := hw17
          have hw17 := hw17.2
          refine tp_i (y := iI (10 * (A 0 12) + z12 - 20)) (congrArg iI (show z15 = 10 * (A 0 12) + z12 - 20 by omega)) ?_
          clear hw17
          have a_A3_6 : A3 6 = A 6 := (hj2.1 6 (by decide) rfl)
          refine x_iald hx hb hK hP 6 1 wm6 rfl (by omega) (by decide) (dk_at dkX12_haves_2 7 rfl) (fun z18 hz18 => ?_)
          have rz18 : (0 : Int) ≤ z18 ∧ z18 ≤ 7 := by rw [hz18]; exact hI 6 _
          have gz18 := Hd.mk hz18
          have hz18 : z18 = A 6 (10 * (A 0 12) + z12 - 20).toNat := hz18.trans (congrFun a_A3_6 _)
          refine lv_aload_n hx hb (dk_at dkX12_haves_2 8 rfl) rfl (lv_at hl 2 rfl) ?_
          have e_A3_67 : A3 0 67 = (A 0 67) := (hj2.2 67 rfl)
          refine va_get (D := (dC, dI)) (ci := 12) (v := .int (iI (A3 0 67))) (C := RX12) (T := TX12) (N := 85) hx hb hts hiX12 hown hK hP 0 wm0 rfl 67 (by decide) (hts _ (List.mem_cons_of_mem _ wlq_6_38)) (fun _ h9 => h9) rfl (dk_at dkX12_haves_2 9 rfl) ?_
          refine tp_i (y := iI (A 0 67)) (congrArg iI e_A3_67) ?_
          have r_A_0_67 : (0 : Int) ≤ (A 0 67) ∧ (A 0 67) ≤ 7 := by rw [← e_A3_67]; exact hI 0 67
          have J89_20 : ∀ (H : Heap) (locs : List Loc) (ls : Array Slot), (∀ (u : St), (∃ mm1 : Nat, (d_X12_haves_2 (fun z1' A3' => d_X12_haves_1 A u mm1 z1' A3') z1 A3 u)) → r_X12_haves A u) → va_P (dC, dI) vwCl (WM cI cJ cZ q A3) H → va_S AS s.heap H locs → lv_has ls 4 [(2, .int (iI z12)), (1, .int (iI z1)), (0, .ref (q 0))] → W p l e (headSpec ws_mc_X12_haves ({ frames := 2, cells := 0, slots := 0, locals := 44 } : Room)).room s m [.ref (q 0)].toArray below meth c H locs 0 0 Q (F0 m 89 ls []) := by
            intro H locs ls hk2 hP hS hl
            refine lv_iconst (v := iI 0) hx hb (dk_at dkX12_haves_3 3 rfl) (by decide +kernel) ?_
            exact J90_14 0 _ _ _ (by omega) (by omega) (fun uq ⟨mm1, hq⟩ => hk2 _ ⟨mm1, (u_d_X12_haves_2 hq)⟩) hP hS (lv_sub hl [0, 1, 2] rfl)
          refine lv_icmp_ne (tgt := 89) hx hb (dk_at dkX12_haves_2 10 rfl) (by decide) (fun c19 => ?_) (fun c19 => ?_)
          · have c19 : ¬ z18 = (A 0 67) := mt (i_eq (rb rz18 (by decide) (by decide)) (rb r_A_0_67 (by decide) (by decide))).mpr c19
            exact J89_20 _ _ _ (fun uq ⟨mm1, hq⟩ => hk1 _ ⟨mm1 + 1, (u_d_X12_haves_1 ⟨gI9.out, ⟨f8, (Or.inr ⟨c10, ⟨z11, gz11.out, ⟨z12, gz12.out, (Or.inl ⟨c13, ⟨z15, ghw17, ⟨z18, gz18.out, (Or.inl ⟨c19, hq⟩)⟩⟩⟩)⟩⟩⟩)⟩⟩)⟩) hP hS (lv_sub hl [0, 1, 2] rfl)
          · have c19 : z18 = (A 0 67) := (i_eq (rb rz18 (by decide) (by decide)) (rb r_A_0_67 (by decide) (by decide))).mp c19
            refine lv_aload_n hx hb (dk_at dkX12_haves_2 11 rfl) rfl (lv_at hl 2 rfl) ?_
            refine lv_iload_n hx hb (dk_at dkX12_haves_2 12 rfl) rfl (lv_at hl 0 rfl) ?_
            refine lv_bipush (v := iI 20) hx hb (dk_at dkX12_haves_2 13 rfl) (by decide +kernel) ?_
            refine x_subv (v := z12 - 20) hx hb (dk_at dkX12_haves_2 14 rfl) (by omega) ?_
            refine x_calli (As := [.int (iI (z12 - 20))]) (rest := []) ⟨hx, hb, hml, hown, hts⟩ (mc_X12_isClosed l dC dI cB cI cJ cZ cQ q _ (z12 - 20) hI (by omega)) (cwV 1 hts (goodV wlq_6_44 wlq_6_45 wlq_6_46 wlq_0_8 wlq_6_42) rfl rfl rfl (by decide +kernel) ⟨Nat.le_of_ble_eq_true rfl, Nat.le_of_ble_eq_true rfl⟩) hK hDD hA0 hP hS 0 12 wm0 rfl rfl hl.1 (Nat.le_of_ble_eq_true rfl) (dk_at dkX12_haves_2 15 rfl) (fun z21 A22 H locs hw23 hP hS => ?_)
            obtain ⟨rfl, hw23⟩ := hw23
            have ghw23 : q_X12_isClosed (z12 - 20) A3 z21 := hw23
            have hw23 := hw23.2
            refine lv_if_ne (tgt := 89) hx hb (dk_at dkX12_haves_3 0 rfl) (by decide) (fun c24 => ?_) (fun c24 => ?_)
            · have c24 : ¬ z21 = 0 := mt (i_eq0 (rb hw23 (by decide) (by decide))).mpr c24
              exact J89_20 _ _ _ (fun uq ⟨mm1, hq⟩ => hk1 _ ⟨mm1 + 1, (u_d_X12_haves_1 ⟨gI9.out, ⟨f8, (Or.inr ⟨c10, ⟨z11, gz11.out, ⟨z12, gz12.out, (Or.inl ⟨c13, ⟨z15, ghw17, ⟨z18, gz18.out, (Or.inr ⟨c19, ⟨z21, ghw23, (Or.inl ⟨c24, hq⟩)⟩⟩)⟩⟩⟩)⟩⟩⟩)⟩⟩)⟩) hP hS (lv_sub hl [0, 1, 2] rfl)
            · have c24 : z21 = 0 := (i_eq0 (rb hw23 (by decide) (by decide))).mp c24
              refine lv_iconst (v := iI 1) hx hb (dk_at dkX12_haves_3 1 rfl) (by decide +kernel) ?_
              refine lv_goto (tgt := 90) hx hb (dk_at dkX12_haves_3 2 rfl) (by decide) ?_
              exact J90_14 1 _ _ _ (by omega) (by omega) (fun uq ⟨mm1, hq⟩ => hk1 _ ⟨mm1 + 1, (u_d_X12_haves_1 ⟨gI9.out, ⟨f8, (Or.inr ⟨c10, ⟨z11, gz11.out, ⟨z12, gz12.out, (Or.inl ⟨c13, ⟨z15, ghw17, ⟨z18, gz18.out, (Or.inr ⟨c19, ⟨z21, ghw23, (Or.inr ⟨c24, hq⟩)⟩⟩)⟩⟩⟩)⟩⟩⟩)⟩⟩)⟩) hP hS (lv_sub hl [0, 1, 2] rfl)
        · have c13 : ¬ 20 ≤ z12 := mt (i_le ⟨by decide, by decide⟩ (rb rz12 (by decide) (by decide))).mpr c13
          refine lv_iload_n hx hb (dk_at dkX12_haves_1 6 rfl) rfl (lv_at hl 0 rfl) ?_
          refine lv_bipush (v := iI 10) hx hb (dk_at dkX12_haves_1 7 rfl) (by decide +kernel) ?_
          refine x_subv (v := z12 - 10) hx hb (dk_at dkX12_haves_1 8 rfl) (by omega) ?_
          refine lv_aload_n hx hb (dk_at dkX12_haves_1 9 rfl) rfl (lv_at hl 2 rfl) ?_
          have e_A3_67 : A3 0 67 = (A 0 67) := (hj2.2 67 rfl)
          refine va_get (D := (dC, dI)) (ci := 12) (v := .int (iI (A3 0 67))) (C := RX12) (T := TX12) (N := 85) hx hb hts hiX12 hown hK hP 0 wm0 rfl 67 (by decide) (hts _ (List.mem_cons_of_mem _ wlq_6_38)) (fun _ h9 => h9) rfl (dk_at dkX12_haves_1 10 rfl) ?_
          refine tp_i (y := iI (A 0 67)) (congrArg iI e_A3_67) ?_
          have r_A_0_67 : (0 : Int) ≤ (A 0 67) ∧ (A 0 67) ≤ 7 := by rw [← e_A3_67]; exact hI 0 67
          refine lv_icmp_ne (tgt := 50) hx hb (dk_at dkX12_haves_1 11 rfl) (by decide) (fun c26 => ?_) (fun c26 => ?_)
          · have c26 : ¬ z12 - 10 = (A 0 67) := mt (i_eq (by omega) (rb r_A_0_67 (by decide) (by decide))).mpr c26
            refine lv_iconst (v := iI 0) hx hb (dk_at dkX12_haves_1 14 rfl) (by decide +kernel) ?_
            refine lv_goto (tgt := 90) hx hb (dk_at dkX12_haves_1 15 rfl) (by decide) ?_
            exact J90_14 0 _ _ _ (by omega) (by omega) (fun uq ⟨mm1, hq⟩ => hk1 _ ⟨mm1 + 1, (u_d_X12_haves_1 ⟨gI9.out, ⟨f8, (Or.inr ⟨c10, ⟨z11, gz11.out, ⟨z12, gz12.out, (Or.inr ⟨c13, (Or.inl ⟨c26, hq⟩)⟩)⟩⟩⟩)⟩⟩)⟩) hP hS (lv_sub hl [0, 1, 2] rfl)
          · have c26 : z12 - 10 = (A 0 67) := (i_eq (by omega) (rb r_A_0_67 (by decide) (by decide))).mp c26
            refine lv_iconst (v := iI 1) hx hb (dk_at dkX12_haves_1 12 rfl) (by decide +kernel) ?_
            refine lv_goto (tgt := 90) hx hb (dk_at dkX12_haves_1 13 rfl) (by decide) ?_
            exact J90_14 1 _ _ _ (by omega) (by omega) (fun uq ⟨mm1, hq⟩ => hk1 _ ⟨mm1 + 1, (u_d_X12_haves_1 ⟨gI9.out, ⟨f8, (Or.inr ⟨c10, ⟨z11, gz11.out, ⟨z12, gz12.out, (Or.inr ⟨c13, (Or.inr ⟨c26, hq⟩)⟩)⟩⟩⟩)⟩⟩)⟩) hP hS (lv_sub hl [0, 1, 2] rfl)
  exact L2_4 _ 0 _ _ _ _ (by omega) (by omega) (fun uq ⟨mm1, hq⟩ => (u_r_X12_haves ⟨mm1, hq⟩)) rfl hI (fr.rf) hP hS (lv_sub hl [0, 1] rfl)

abbrev tr_d_X12_actsTo_1 (x1 : Int) (A : St) (z : Int) (u : St) (K1 : Int → St → Prop) (z1 : Int) (A3 : St) : Prop := ((IM A3) ∧ ((0 ≤ z1 ∧ z1 ≤ 2147483647) ∧ ((((A 0 66) ≤ z1) ∧ (z = (-1) ∧ u = A3)) ∨ ((¬ (A 0 66) ≤ z1) ∧ (∃ z11 : Int, z11 = A3 48 (z1).toNat ∧ (∃ A12 : St, q_X12_takes z11 A3 A12 ∧ (((¬ (A12 0 67) = x1) ∧ (K1 (z1 + 1) A12)) ∨ (((A12 0 67) = x1) ∧ (∃ z16 : Int, z16 = A12 48 (z1).toNat ∧ (∃ z17 : Int, z17 = A12 47 (z16).toNat ∧ (z = z17 ∧ u = A12)))))))))))
def d_X12_actsTo_1 (x1 : Int) (A : St) (z : Int) (u : St) : Nat → Int → St → Prop
  | 0, _, _ => False
  | nn9 + 1, z1, A3 => tr_d_X12_actsTo_1 x1 A z u (fun z1 A3 => d_X12_actsTo_1 x1 A z u nn9 z1 A3) z1 A3
theorem u_d_X12_actsTo_1 {x1 : Int} {A : St} {z : Int} {u : St} {nn9 : Nat} {z1 : Int} {A3 : St} (h : tr_d_X12_actsTo_1 x1 A z u (fun z1 A3 => d_X12_actsTo_1 x1 A z u nn9 z1 A3) z1 A3) : d_X12_actsTo_1 x1 A z u (nn9 + 1) z1 A3 := h
abbrev tr_r_X12_actsTo (x1 : Int) (A : St) (z : Int) (u : St) : Prop := (∃ nn9 : Nat, d_X12_actsTo_1 x1 A z u nn9 0 A)
def r_X12_actsTo (x1 : Int) (A : St) (z : Int) (u : St) : Prop := tr_r_X12_actsTo x1 A z u
theorem u_r_X12_actsTo {x1 : Int} {A : St} {z : Int} {u : St} (h : tr_r_X12_actsTo x1 A z u) : r_X12_actsTo x1 A z u := h
def q_X12_actsTo (x1 : Int) (A : St) (z : Int) (u : St) : Prop := r_X12_actsTo x1 A z u ∧ IM u ∧ fr [49] [67, 69] A u ∧ (-2147483648 ≤ z ∧ z ≤ 2147483647)
def ws_mc_X12_actsTo : List Cond := .code yX12_actsTo cX12_actsTo 3 (some .int) :: WX
set_option maxHeartbeats 4000000 in
set_option maxRecDepth 100000 in
theorem mc_X12_actsTo (l : Launch) (dC : Nat → ClassId) (dI : Nat → Nat → Nat) (cB cI cJ cZ cQ : ClassId) (q : Nat → Nat) (A : St) (x1 : Int) (hI : IM A) (hx1 : (-2147483648 : Int) ≤ x1 ∧ x1 ≤ 2147483647) : XMi l yX12_actsTo ws_mc_X12_actsTo ({ frames := 1, cells := 0, slots := 0, locals := 23 } : Room) (dC, dI) (tyA cB cI cJ cZ cQ) (WM cI cJ cZ q) A [.ref (q 0), .int (iI x1)] (fun z u => r_X12_actsTo x1 A z u ∧ IM u ∧ fr [49] [67, 69] A u ∧ (-2147483648 ≤ z ∧ z ≤ 2147483647)) := by
  refine x_meti (cc := cX12_actsTo) (maxL := 3) WM_adr (by decide +kernel) rfl (Nat.le_of_ble_eq_true rfl) (fun p e s m below meth c Q AS ls hx hb hml hown hts hK hDD hA0 hP hS hl RET => ?_)
  have hown : s.vm.findClass RX12 = some m.cls := hown
  have hl : lv_has ls 3 [(0, .ref (q 0)), (1, .int (iI x1))] := hl
  have hiX12 : ∀ w ∈ u_ws RX12 TX12 85, w ∈ ws_mc_X12_actsTo := fun w h => List.mem_cons_of_mem _ (wx_lay w h)
  obtain ⟨H, hHe⟩ : ∃ H : Heap, H = s.heap := ⟨_, rfl⟩
  rw [← hHe] at hP
  have hS : va_S AS s.heap H [] := by rw [hHe]; exact hS
  suffices hgo : ∀ locs : List Loc, va_S AS s.heap H locs → W p l e (headSpec ws_mc_X12_actsTo ({ frames := 1, cells := 0, slots := 0, locals := 23 } : Room)).room s m [.ref (q 0), .int (iI x1)].toArray below meth c H locs 0 0 Q (F0 m 0 ls []) by
    have := hgo [] hS
    rw [hHe] at this
    exact this
  clear hS hHe
  intro locs hS
  refine lv_iconst (v := iI 0) hx hb (dk_at dkX12_actsTo_0 0 rfl) (by decide +kernel) ?_
  refine lv_istore_n (lv' := [(2, .int (iI 0)), (0, .ref (q 0)), (1, .int (iI x1))]) hx hb (dk_at dkX12_actsTo_0 1 rfl) rfl hl (by decide) rfl (fun ls hl => ?_)
  have L2_4 : ∀ (n6 : Nat) (z1 : Int) (A3 : St) (H : Heap) (locs : List Loc) (ls : Array Slot), (0 ≤ z1) → (0 ≤ z1 ∧ z1 ≤ 2147483647) → (∀ (z : Int) (u : St), (∃ mm1 : Nat, (d_X12_actsTo_1 x1 A z u mm1 z1 A3)) → r_X12_actsTo x1 A z u) → (((A 0 66) - z1 + 1).toNat = n6) → IM A3 → fr [49] [67, 69] A A3 → va_P (dC, dI) vwCl (WM cI cJ cZ q A3) H → va_S AS s.heap H locs → lv_has ls 3 [(2, .int (iI z1)), (0, .ref (q 0)), (1, .int (iI x1))] → W p l e (headSpec ws_mc_X12_actsTo ({ frames := 1, cells := 0, slots := 0, locals := 23 } : Room)).room s m [.ref (q 0), .int (iI x1)].toArray below meth c H locs 0 0 Q (F0 m 2 ls []) := by
    intro n6
    induction n6 using Nat.strongRecOn with
    | ind n6 ih5 =>
      intro z1 A3 H locs ls f7 f8 hk1 hn6 hI hj2 hP hS hl
      have gI9 : Hd (IM A3) := Hd.mk hI
      refine lv_iload_n hx hb (dk_at dkX12_actsTo_0 2 rfl) rfl (lv_at hl 0 rfl) ?_
      refine lv_aload_n hx hb (dk_at dkX12_actsTo_0 3 rfl) rfl (lv_at hl 1 rfl) ?_
      have e_A3_66 : A3 0 66 = (A 0 66) := (hj2.2 66 rfl)
      refine va_get (D := (dC, dI)) (ci := 12) (v := .int (iI (A3 0 66))) (C := RX12) (T := TX12) (N := 85) hx hb hts hiX12 hown hK hP 0 wm0 rfl 66 (by decide) (hts _ (List.mem_cons_of_mem _ wlq_6_53)) (fun _ h9 => h9) rfl (dk_at dkX12_actsTo_0 4 rfl) ?_
      refine tp_i (y := iI (A 0 66)) (congrArg iI e_A3_66) ?_
      have r_A_0_66 : (0 : Int) ≤ (A 0 66) ∧ (A 0 66) ≤ 76832 := by rw [← e_A3_66]; exact hI 0 66
      refine lv_icmp_ge (tgt := 46) hx hb (dk_at dkX12_actsTo_0 5 rfl) (by decide) (fun c10 => ?_) (fun c10 => ?_)
      · have c10 : (A 0 66) ≤ z1 := (i_le (rb r_A_0_66 (by decide) (by decide)) (rb f8 (by decide) (by decide))).mp c10
        refine lv_iconst (v := iI (-1)) hx hb (dk_at dkX12_actsTo_1 10 rfl) (by decide +kernel) ?_
        exact RET (-1) _ _ _ _ _ ⟨hk1 _ _ ⟨0 + 1, (u_d_X12_actsTo_1 ⟨gI9.out, ⟨f8, (Or.inl ⟨c10, ⟨rfl, rfl⟩⟩)⟩⟩)⟩, hI, fr.trans (fr.rf) hj2 rfl rfl, by omega⟩ hP hS (dk_at dkX12_actsTo_1 11 rfl)
      · have c10 : ¬ (A 0 66) ≤ z1 := mt (i_le (rb r_A_0_66 (by decide) (by decide)) (rb f8 (by decide) (by decide))).mpr c10
        refine lv_aload_n hx hb (dk_at dkX12_actsTo_0 6 rfl) rfl (lv_at hl 1 rfl) ?_
        refine lv_aload_n hx hb (dk_at dkX12_actsTo_0 7 rfl) rfl (lv_at hl 1 rfl) ?_
        refine va_get (D := (dC, dI)) (ci := 12) (v := .ref (q 48)) (C := RX12) (T := TX12) (N := 85) hx hb hts hiX12 hown hK hP 0 wm0 rfl 65 (by decide) (hts _ (List.mem_cons_of_mem _ wlq_6_52)) (fun _ h9 => h9) rfl (dk_at dkX12_actsTo_0 8 rfl) ?_
        refine lv_iload_n hx hb (dk_at dkX12_actsTo_0 9 rfl) rfl (lv_at hl 0 rfl) ?_
        have a_A3_48 : A3 48 = A 48 := (hj2.1 48 (by decide) rfl)
        refine x_iald hx hb hK hP 48 1 wm48 rfl (by omega) (by decide) (dk_at dkX12_actsTo_0 10 rfl) (fun z11 hz11 => ?_)
        have rz11 : (0 : Int) ≤ z11 ∧ z11 ≤ 76831 := by rw [hz11]; exact hI 48 _
        have gz11 := Hd.mk hz11
        have hz11 : z11 = A 48 (z1).toNat := hz11.trans (congrFun a_A3_48 _)
        refine x_callv (As := [.int (iI z11)]) (rest := []) ⟨hx, hb, hml, hown, hts⟩ (mc_X12_takes l dC dI cB cI cJ cZ cQ q _ z11 hI rz11) (cwV 1 hts (goodV wlq_7_11 wlq_7_12 wlq_7_13 wlq_0_8 wlq_6_41) rfl rfl rfl (by decide +kernel) ⟨Nat.le_of_ble_eq_true rfl, Nat.le_of_ble_eq_true rfl⟩) hK hDD hA0 hP hS 0 12 wm0 rfl rfl hl.1 (Nat.le_of_ble_eq_true rfl) (dk_at dkX12_actsTo_0 11 rfl) (fun A12 H locs hw13 hP hS => ?_)
        have ghw13 : q_X12_takes z11 A3 A12 := hw13
        obtain ⟨_, hI, hf14, hw13⟩ := hw13
        clear hw13
        refine lv_aload_n hx hb (dk_at dkX12_actsTo_0 12 rfl) rfl (lv_at hl 1 rfl) ?_
        refine va_get (D := (dC, dI)) (ci := 12) (v := .int (iI (A12 0 67))) (C := RX12) (T := TX12) (N := 85) hx hb hts hiX12 hown hK hP 0 wm0 rfl 67 (by decide) (hts _ (List.mem_cons_of_mem _ wlq_6_38)) (fun _ h9 => h9) rfl (dk_at dkX12_actsTo_0 13 rfl) ?_
        have r_A12_0_67 : (0 : Int) ≤ (A12 0 67) ∧ (A12 0 67) ≤ 7 := hI 0 67
        refine lv_iload_n hx hb (dk_at dkX12_actsTo_0 14 rfl) rfl (lv_at hl 2 rfl) ?_
        refine lv_icmp_ne (tgt := 40) hx hb (dk_at dkX12_actsTo_0 15 rfl) (by decide) (fun c15 => ?_) (fun c15 => ?_)
        · have c15 : ¬ (A12 0 67) = x1 := mt (i_eq (rb r_A12_0_67 (by decide) (by decide)) hx1).mpr c15
          refine lv_iinc (v := iI (z1 + 1)) (lv' := [(2, .int (iI (z1 + 1))), (0, .ref (q 0)), (1, .int (iI x1))]) hx hb (dk_at dkX12_actsTo_1 8 rfl) hl (k := 0) rfl (i_inc (by omega)) (by decide) rfl (fun ls hl => ?_)
          refine lv_goto (tgt := 2) hx hb (dk_at dkX12_actsTo_1 9 rfl) (by decide) ?_
          exact ih5 _ (by omega) (z1 + 1) _ _ _ _ (by omega) (by omega) (fun zq uq ⟨mm1, hq⟩ => hk1 _ _ ⟨mm1 + 1, (u_d_X12_actsTo_1 ⟨gI9.out, ⟨f8, (Or.inr ⟨c10, ⟨z11, gz11.out, ⟨A12, ghw13, (Or.inl ⟨c15, hq⟩)⟩⟩⟩)⟩⟩)⟩) rfl hI (fr.trans (fr.trans (fr.rf) hj2 rfl rfl) hf14 rfl rfl) hP hS (lv_sub hl [0, 1, 2] rfl)
        · have c15 : (A12 0 67) = x1 := (i_eq (rb r_A12_0_67 (by decide) (by decide)) hx1).mp c15
          refine lv_aload_n hx hb (dk_at dkX12_actsTo_1 0 rfl) rfl (lv_at hl 1 rfl) ?_
          refine va_get (D := (dC, dI)) (ci := 12) (v := .ref (q 47)) (C := RX12) (T := TX12) (N := 85) hx hb hts hiX12 hown hK hP 0 wm0 rfl 64 (by decide) (hts _ (List.mem_cons_of_mem _ wlq_6_51)) (fun _ h9 => h9) rfl (dk_at dkX12_actsTo_1 1 rfl) ?_
          refine lv_aload_n hx hb (dk_at dkX12_actsTo_1 2 rfl) rfl (lv_at hl 1 rfl) ?_
          refine va_get (D := (dC, dI)) (ci := 12) (v := .ref (q 48)) (C := RX12) (T := TX12) (N := 85) hx hb hts hiX12 hown hK hP 0 wm0 rfl 65 (by decide) (hts _ (List.mem_cons_of_mem _ wlq_6_52)) (fun _ h9 => h9) rfl (dk_at dkX12_actsTo_1 3 rfl) ?_
          refine lv_iload_n hx hb (dk_at dkX12_actsTo_1 4 rfl) rfl (lv_at hl 0 rfl) ?_
          have a_A12_48 : A12 48 = A 48 := (hf14.1 48 (by decide) rfl).trans a_A3_48
          refine x_iald hx hb hK hP 48 1 wm48 rfl (by omega) (by decide) (dk_at dkX12_actsTo_1 5 rfl) (fun z16 hz16 => ?_)
          have rz16 : (0 : Int) ≤ z16 ∧ z16 ≤ 76831 := by rw [hz16]; exact hI 48 _
          have gz16 := Hd.mk hz16
          have hz16 : z16 = A 48 (z1).toNat := hz16.trans (congrFun a_A12_48 _)
          have ez16 : z16 = z11 := hz16.trans hz11.symm
          have a_A3_47 : A3 47 = A 47 := (hj2.1 47 (by decide) rfl)
          have a_A12_47 : A12 47 = A 47 := (hf14.1 47 (by decide) rfl).trans a_A3_47
          refine x_iald hx hb hK hP 47 1 wm47 rfl (by omega) (by decide) (dk_at dkX12_actsTo_1 6 rfl) (fun z17 hz17 => ?_)
          have rz17 : (-1 : Int) ≤ z17 ∧ z17 ≤ 76832 := by rw [hz17]; exact hI 47 _
          have gz17 := Hd.mk hz17
          have hz17 : z17 = A 47 (z16).toNat := hz17.trans (congrFun a_A12_47 _)
          exact RET z17 _ _ _ _ _ ⟨hk1 _ _ ⟨0 + 1, (u_d_X12_actsTo_1 ⟨gI9.out, ⟨f8, (Or.inr ⟨c10, ⟨z11, gz11.out, ⟨A12, ghw13, (Or.inr ⟨c15, ⟨z16, gz16.out, ⟨z17, gz17.out, ⟨rfl, rfl⟩⟩⟩⟩)⟩⟩⟩)⟩⟩)⟩, hI, fr.trans (fr.trans (fr.rf) hj2 rfl rfl) hf14 rfl rfl, by omega⟩ hP hS (dk_at dkX12_actsTo_1 7 rfl)
  exact L2_4 _ 0 _ _ _ _ (by omega) (by omega) (fun zq uq ⟨mm1, hq⟩ => (u_r_X12_actsTo ⟨mm1, hq⟩)) rfl hI (fr.rf) hP hS (lv_sub hl [0, 1, 2] rfl)

abbrev tr_d_X12_canOpen_2 (K1 : Int → Prop) (z6 : Int) (z : Int) : Prop := (K1 (z6 + 1))
def d_X12_canOpen_2 (K1 : Int → Prop) (z6 : Int) (z : Int) : Prop := tr_d_X12_canOpen_2 K1 z6 z
theorem u_d_X12_canOpen_2 {K1 : Int → Prop} {z6 : Int} {z : Int} (h : tr_d_X12_canOpen_2 K1 z6 z) : d_X12_canOpen_2 K1 z6 z := h
abbrev tr_d_X12_canOpen_1 (x1 : Int) (x2 : Int) (A : St) (z : Int) (K1 : Int → Prop) (z6 : Int) : Prop := ((0 ≤ z6 ∧ z6 ≤ 2147483647) ∧ (∃ z14 : Int, z14 = A 11 ((A 0 12)).toNat ∧ (((z14 ≤ z6) ∧ (z = 1)) ∨ ((¬ z14 ≤ z6) ∧ (∃ z16 : Int, q_X12_key4 z6 A z16 ∧ (∃ z19 : Int, z19 = A 13 (4 * (A 0 12) + z6).toNat ∧ (∃ z20 : Int, q_X12_inRow z6 x2 A z20 ∧ (((z20 = 0) ∧ (d_X12_canOpen_2 K1 z6 z)) ∨ ((¬ z20 = 0) ∧ (((10 ≤ z19) ∧ (z = 0)) ∨ ((¬ 10 ≤ z19) ∧ (∃ z26 : Int, z26 = oShr x1 z19 ∧ (∃ z27 : Int, z27 = oAnd z26 1 ∧ (((¬ z27 = 0) ∧ (d_X12_canOpen_2 K1 z6 z)) ∨ ((z27 = 0) ∧ (z = 0))))))))))))))))
def d_X12_canOpen_1 (x1 : Int) (x2 : Int) (A : St) (z : Int) : Nat → Int → Prop
  | 0, _ => False
  | nn9 + 1, z6 => tr_d_X12_canOpen_1 x1 x2 A z (fun z6 => d_X12_canOpen_1 x1 x2 A z nn9 z6) z6
theorem u_d_X12_canOpen_1 {x1 : Int} {x2 : Int} {A : St} {z : Int} {nn9 : Nat} {z6 : Int} (h : tr_d_X12_canOpen_1 x1 x2 A z (fun z6 => d_X12_canOpen_1 x1 x2 A z nn9 z6) z6) : d_X12_canOpen_1 x1 x2 A z (nn9 + 1) z6 := h
abbrev tr_r_X12_canOpen (x1 : Int) (x2 : Int) (A : St) (z : Int) : Prop := (∃ z1 : Int, q_X12_door10 x2 A z1 ∧ (∃ z4 : Int, z4 = A 10 (10 * (A 0 12) + x2).toNat ∧ (((z4 = 0) ∧ (∃ nn9 : Nat, d_X12_canOpen_1 x1 x2 A z nn9 0)) ∨ ((¬ z4 = 0) ∧ (z = 0)))))
def r_X12_canOpen (x1 : Int) (x2 : Int) (A : St) (z : Int) : Prop := tr_r_X12_canOpen x1 x2 A z
theorem u_r_X12_canOpen {x1 : Int} {x2 : Int} {A : St} {z : Int} (h : tr_r_X12_canOpen x1 x2 A z) : r_X12_canOpen x1 x2 A z := h
def q_X12_canOpen (x1 : Int) (x2 : Int) (A : St) (z : Int) : Prop := r_X12_canOpen x1 x2 A z ∧ (0 ≤ z ∧ z ≤ 1)
def ws_mc_X12_canOpen : List Cond := .code yX12_canOpen cX12_canOpen 5 (some .boolean) :: WX
set_option maxHeartbeats 4000000 in
set_option maxRecDepth 100000 in
theorem mc_X12_canOpen (l : Launch) (dC : Nat → ClassId) (dI : Nat → Nat → Nat) (cB cI cJ cZ cQ : ClassId) (q : Nat → Nat) (A : St) (x1 x2 : Int) (hI : IM A) (hx1 : (-2147483648 : Int) ≤ x1 ∧ x1 ≤ 2147483647) (hx2 : (0 : Int) ≤ x2 ∧ x2 ≤ 9) : XMi l yX12_canOpen ws_mc_X12_canOpen ({ frames := 2, cells := 0, slots := 0, locals := 45 } : Room) (dC, dI) (tyA cB cI cJ cZ cQ) (WM cI cJ cZ q) A [.ref (q 0), .int (iI x1), .int (iI x2)] (fun z u => A = u ∧ r_X12_canOpen x1 x2 A z ∧ (0 ≤ z ∧ z ≤ 1)) := by
  refine x_metz (cc := cX12_canOpen) (maxL := 5) WM_adr (by decide +kernel) rfl (Nat.le_of_ble_eq_true rfl) (fun z u h => h.2.2) (fun p e s m below meth c Q AS ls hx hb hml hown hts hK hDD hA0 hP hS hl RET => ?_)
  have hown : s.vm.findClass RX12 = some m.cls := hown
  have hl : lv_has ls 5 [(0, .ref (q 0)), (1, .int (iI x1)), (2, .int (iI x2))] := hl
  have hiX12 : ∀ w ∈ u_ws RX12 TX12 85, w ∈ ws_mc_X12_canOpen := fun w h => List.mem_cons_of_mem _ (wx_lay w h)
  obtain ⟨H, hHe⟩ : ∃ H : Heap, H = s.heap := ⟨_, rfl⟩
  rw [← hHe] at hP
  have hS : va_S AS s.heap H [] := by rw [hHe]; exact hS
  suffices hgo : ∀ locs : List Loc, va_S AS s.heap H locs → W p l e (headSpec ws_mc_X12_canOpen ({ frames := 2, cells := 0, slots := 0, locals := 45 } : Room)).room s m [.ref (q 0), .int (iI x1), .int (iI x2)].toArray below meth c H locs 0 0 Q (F0 m 0 ls []) by
    have := hgo [] hS
    rw [hHe] at this
    exact this
  clear hS hHe
  intro locs hS
  refine lv_aload_n hx hb (dk_at dkX12_canOpen_0 0 rfl) rfl (lv_at hl 0 rfl) ?_
  refine va_get (D := (dC, dI)) (ci := 12) (v := .ref (q 10)) (C := RX12) (T := TX12) (N := 85) hx hb hts hiX12 hown hK hP 0 wm0 rfl 21 (by decide) (hts _ (List.mem_cons_of_mem _ wlq_2_43)) (fun _ h9 => h9) rfl (dk_at dkX12_canOpen_0 1 rfl) ?_
  refine lv_aload_n hx hb (dk_at dkX12_canOpen_0 2 rfl) rfl (lv_at hl 0 rfl) ?_
  refine lv_iload_n hx hb (dk_at dkX12_canOpen_0 3 rfl) rfl (lv_at hl 2 rfl) ?_
  have r_A_0_12 : (0 : Int) ≤ (A 0 12) ∧ (A 0 12) ≤ 1 := hI 0 12
  refine x_calli (As := [.int (iI x2)]) (rest := [.ref (q 10)]) ⟨hx, hb, hml, hown, hts⟩ (mc_X12_door10 l dC dI cB cI cJ cZ cQ q _ x2 hI hx2) (cwV 1 hts (goodV wlq_4_49 wlq_4_50 wlq_4_51 wlq_0_8 wlq_4_42) rfl rfl rfl (by decide +kernel) ⟨Nat.le_of_ble_eq_true rfl, Nat.le_of_ble_eq_true rfl⟩) hK hDD hA0 hP hS 0 12 wm0 rfl rfl hl.1 (Nat.le_of_ble_eq_true rfl) (dk_at dkX12_canOpen_0 4 rfl) (fun z1 A2 H locs hw3 hP hS => ?_)
  obtain ⟨rfl, hw3⟩ := hw3
  have ghw3 : q_X12_door10 x2 A z1 := hw3
  have hw3 := hw3.2
  refine tp_i (y := iI (10 * (A 0 12) + x2)) (congrArg iI (show z1 = 10 * (A 0 12) + x2 by omega)) ?_
  clear hw3
  refine x_zald hx hb hK hP 10 3 wm10 rfl (by omega) (by decide) (dk_at dkX12_canOpen_0 5 rfl) (fun z4 hz4 => ?_)
  have rz4 : (0 : Int) ≤ z4 ∧ z4 ≤ 1 := by rw [hz4]; exact hI 10 _
  have gz4 := Hd.mk hz4
  have hz4 : z4 = A 10 (10 * (A 0 12) + x2).toNat := hz4
  refine lv_if_eq (tgt := 15) hx hb (dk_at dkX12_canOpen_0 6 rfl) (by decide) (fun c5 => ?_) (fun c5 => ?_)
  · have c5 : z4 = 0 := (i_eq0 (rb rz4 (by decide) (by decide))).mp c5
    refine lv_iconst (v := iI 0) hx hb (dk_at dkX12_canOpen_0 9 rfl) (by decide +kernel) ?_
    refine lv_istore_n (lv' := [(3, .int (iI 0)), (0, .ref (q 0)), (1, .int (iI x1)), (2, .int (iI x2))]) hx hb (dk_at dkX12_canOpen_0 10 rfl) rfl hl (by decide) rfl (fun ls hl => ?_)
    have L17_9 : ∀ (n11 : Nat) (z6 : Int) (H : Heap) (locs : List Loc) (ls : Array Slot), (0 ≤ z6) → (0 ≤ z6 ∧ z6 ≤ 2147483647) → (∀ (z : Int), (∃ mm1 : Nat, (d_X12_canOpen_1 x1 x2 A z mm1 z6)) → r_X12_canOpen x1 x2 A z) → ((A 11 ((A 0 12)).toNat - z6 + 1).toNat = n11) → va_P (dC, dI) vwCl (WM cI cJ cZ q A) H → va_S AS s.heap H locs → lv_has ls 5 [(3, .int (iI z6)), (0, .ref (q 0)), (1, .int (iI x1)), (2, .int (iI x2))] → W p l e (headSpec ws_mc_X12_canOpen ({ frames := 2, cells := 0, slots := 0, locals := 45 } : Room)).room s m [.ref (q 0), .int (iI x1), .int (iI x2)].toArray below meth c H locs 0 0 Q (F0 m 17 ls []) := by
      intro n11
      induction n11 using Nat.strongRecOn with
      | ind n11 ih10 =>
        intro z6 H locs ls f12 f13 hk1 hn11 hP hS hl
        refine lv_iload_n hx hb (dk_at dkX12_canOpen_0 11 rfl) rfl (lv_at hl 0 rfl) ?_
        refine lv_aload_n hx hb (dk_at dkX12_canOpen_0 12 rfl) rfl (lv_at hl 1 rfl) ?_
        refine va_get (D := (dC, dI)) (ci := 12) (v := .ref (q 11)) (C := RX12) (T := TX12) (N := 85) hx hb hts hiX12 hown hK hP 0 wm0 rfl 22 (by decide) (hts _ (List.mem_cons_of_mem _ wlq_1_14)) (fun _ h9 => h9) rfl (dk_at dkX12_canOpen_0 13 rfl) ?_
        refine lv_aload_n hx hb (dk_at dkX12_canOpen_0 14 rfl) rfl (lv_at hl 1 rfl) ?_
        refine va_get (D := (dC, dI)) (ci := 12) (v := .int (iI (A 0 12))) (C := RX12) (T := TX12) (N := 85) hx hb hts hiX12 hown hK hP 0 wm0 rfl 12 (by decide) (hts _ (List.mem_cons_of_mem _ wlq_4_14)) (fun _ h9 => h9) rfl (dk_at dkX12_canOpen_0 15 rfl) ?_
        refine x_iald hx hb hK hP 11 1 wm11 rfl (by omega) (by decide) (dk_at dkX12_canOpen_1 0 rfl) (fun z14 hz14 => ?_)
        have rz14 : (0 : Int) ≤ z14 ∧ z14 ≤ 4 := by rw [hz14]; exact hI 11 _
        have gz14 := Hd.mk hz14
        have hz14 : z14 = A 11 ((A 0 12)).toNat := hz14
        refine lv_icmp_ge (tgt := 75) hx hb (dk_at dkX12_canOpen_1 1 rfl) (by decide) (fun c15 => ?_) (fun c15 => ?_)
        · have c15 : z14 ≤ z6 := (i_le (rb rz14 (by decide) (by decide)) (rb f13 (by decide) (by decide))).mp c15
          refine lv_iconst (v := iI 1) hx hb (dk_at dkX12_canOpen_2 11 rfl) (by decide +kernel) ?_
          exact RET 1 _ _ _ _ _ ⟨rfl, hk1 _ ⟨0 + 1, (u_d_X12_canOpen_1 ⟨f13, ⟨z14, gz14.out, (Or.inl ⟨c15, rfl⟩)⟩⟩)⟩, by omega⟩ hP hS (dk_at dkX12_canOpen_2 12 rfl)
        · have c15 : ¬ z14 ≤ z6 := mt (i_le (rb rz14 (by decide) (by decide)) (rb f13 (by decide) (by decide))).mpr c15
          refine lv_aload_n hx hb (dk_at dkX12_canOpen_1 2 rfl) rfl (lv_at hl 1 rfl) ?_
          refine va_get (D := (dC, dI)) (ci := 12) (v := .ref (q 13)) (C := RX12) (T := TX12) (N := 85) hx hb hts hiX12 hown hK hP 0 wm0 rfl 24 (by decide) (hts _ (List.mem_cons_of_mem _ wlq_2_58)) (fun _ h9 => h9) rfl (dk_at dkX12_canOpen_1 3 rfl) ?_
          refine lv_aload_n hx hb (dk_at dkX12_canOpen_1 4 rfl) rfl (lv_at hl 1 rfl) ?_
          refine lv_iload_n hx hb (dk_at dkX12_canOpen_1 5 rfl) rfl (lv_at hl 0 rfl) ?_
          refine x_calli (As := [.int (iI z6)]) (rest := [.ref (q 13)]) ⟨hx, hb, hml, hown, hts⟩ (mc_X12_key4 l dC dI cB cI cJ cZ cQ q _ z6 hI (by omega)) (cwV 1 hts (goodV wlq_4_44 wlq_4_45 wlq_4_46 wlq_0_8 wlq_4_41) rfl rfl rfl (by decide +kernel) ⟨Nat.le_of_ble_eq_true rfl, Nat.le_of_ble_eq_true rfl⟩) hK hDD hA0 hP hS 0 12 wm0 rfl rfl hl.1 (Nat.le_of_ble_eq_true rfl) (dk_at dkX12_canOpen_1 6 rfl) (fun z16 A17 H locs hw18 hP hS => ?_)
          obtain ⟨rfl, hw18⟩ := hw18
          have ghw18 : q_X12_key4 z6 A z16 := hw18
          have hw18 := hw18.2
          refine tp_i (y := iI (4 * (A 0 12) + z6)) (congrArg iI (show z16 = 4 * (A 0 12) + z6 by omega)) ?_
          clear hw18
          refine x_iald hx hb hK hP 13 1 wm13 rfl (by omega) (by decide) (dk_at dkX12_canOpen_1 7 rfl) (fun z19 hz19 => ?_)
          have rz19 : (0 : Int) ≤ z19 ∧ z19 ≤ 40 := by rw [hz19]; exact hI 13 _
          have gz19 := Hd.mk hz19
          have hz19 : z19 = A 13 (4 * (A 0 12) + z6).toNat := hz19
          refine lv_istore (lv' := [(4, .int (iI z19)), (3, .int (iI z6)), (0, .ref (q 0)), (1, .int (iI x1)), (2, .int (iI x2))]) hx hb (dk_at dkX12_canOpen_1 8 rfl) hl (by decide) rfl (fun ls hl => ?_)
          refine lv_aload_n hx hb (dk_at dkX12_canOpen_1 9 rfl) rfl (lv_at hl 2 rfl) ?_
          refine lv_iload_n hx hb (dk_at dkX12_canOpen_1 10 rfl) rfl (lv_at hl 1 rfl) ?_
          refine lv_iload_n hx hb (dk_at dkX12_canOpen_1 11 rfl) rfl (lv_at hl 4 rfl) ?_
          refine x_calli (As := [.int (iI z6), .int (iI x2)]) (rest := []) ⟨hx, hb, hml, hown, hts⟩ (mc_X12_inRow l dC dI cB cI cJ cZ cQ q _ z6 x2 hI (by omega) (rb hx2 (by decide) (by decide))) (cwV 2 hts (goodV wlq_4_52 wlq_4_53 wlq_4_54 wlq_0_8 wlq_4_43) rfl rfl rfl (by decide +kernel) ⟨Nat.le_of_ble_eq_true rfl, Nat.le_of_ble_eq_true rfl⟩) hK hDD hA0 hP hS 0 12 wm0 rfl rfl hl.1 (Nat.le_of_ble_eq_true rfl) (dk_at dkX12_canOpen_1 12 rfl) (fun z20 A21 H locs hw22 hP hS => ?_)
          obtain ⟨rfl, hw22⟩ := hw22
          have ghw22 : q_X12_inRow z6 x2 A z20 := hw22
          have hw22 := hw22.2
          have J69_24 : ∀ (H : Heap) (locs : List Loc) (ls : Array Slot), (∀ (z : Int), (∃ mm1 : Nat, (d_X12_canOpen_2 (fun z6' => d_X12_canOpen_1 x1 x2 A z mm1 z6') z6 z)) → r_X12_canOpen x1 x2 A z) → va_P (dC, dI) vwCl (WM cI cJ cZ q A) H → va_S AS s.heap H locs → lv_has ls 5 [(4, .int (iI z19)), (3, .int (iI z6)), (0, .ref (q 0)), (1, .int (iI x1)), (2, .int (iI x2))] → W p l e (headSpec ws_mc_X12_canOpen ({ frames := 2, cells := 0, slots := 0, locals := 45 } : Room)).room s m [.ref (q 0), .int (iI x1), .int (iI x2)].toArray below meth c H locs 0 0 Q (F0 m 69 ls []) := by
            intro H locs ls hk2 hP hS hl
            refine lv_iinc (v := iI (z6 + 1)) (lv' := [(3, .int (iI (z6 + 1))), (4, .int (iI z19)), (0, .ref (q 0)), (1, .int (iI x1)), (2, .int (iI x2))]) hx hb (dk_at dkX12_canOpen_2 9 rfl) hl (k := 1) rfl (i_inc (by omega)) (by decide) rfl (fun ls hl => ?_)
            refine lv_goto (tgt := 17) hx hb (dk_at dkX12_canOpen_2 10 rfl) (by decide) ?_
            exact ih10 _ (by omega) (z6 + 1) _ _ _ (by omega) (by omega) (fun zq ⟨mm1, hq⟩ => hk2 _ ⟨mm1, (u_d_X12_canOpen_2 hq)⟩) rfl hP hS (lv_sub hl [0, 2, 3, 4] rfl)
          refine lv_if_eq (tgt := 69) hx hb (dk_at dkX12_canOpen_1 13 rfl) (by decide) (fun c23 => ?_) (fun c23 => ?_)
          · have c23 : z20 = 0 := (i_eq0 (rb hw22 (by decide) (by decide))).mp c23
            exact J69_24 _ _ _ (fun zq ⟨mm1, hq⟩ => hk1 _ ⟨mm1 + 1, (u_d_X12_canOpen_1 ⟨f13, ⟨z14, gz14.out, (Or.inr ⟨c15, ⟨z16, ghw18, ⟨z19, gz19.out, ⟨z20, ghw22, (Or.inl ⟨c23, hq⟩)⟩⟩⟩⟩)⟩⟩)⟩) hP hS (lv_sub hl [0, 1, 2, 3, 4] rfl)
          · have c23 : ¬ z20 = 0 := mt (i_eq0 (rb hw22 (by decide) (by decide))).mpr c23
            refine lv_iload hx hb (dk_at dkX12_canOpen_1 14 rfl) (lv_at hl 0 rfl) ?_
            refine lv_bipush (v := iI 10) hx hb (dk_at dkX12_canOpen_1 15 rfl) (by decide +kernel) ?_
            refine lv_icmp_ge (tgt := 67) hx hb (dk_at dkX12_canOpen_2 0 rfl) (by decide) (fun c25 => ?_) (fun c25 => ?_)
            · have c25 : 10 ≤ z19 := (i_le ⟨by decide, by decide⟩ (rb rz19 (by decide) (by decide))).mp c25
              refine lv_iconst (v := iI 0) hx hb (dk_at dkX12_canOpen_2 7 rfl) (by decide +kernel) ?_
              exact RET 0 _ _ _ _ _ ⟨rfl, hk1 _ ⟨0 + 1, (u_d_X12_canOpen_1 ⟨f13, ⟨z14, gz14.out, (Or.inr ⟨c15, ⟨z16, ghw18, ⟨z19, gz19.out, ⟨z20, ghw22, (Or.inr ⟨c23, (Or.inl ⟨c25, rfl⟩)⟩)⟩⟩⟩⟩)⟩⟩)⟩, by omega⟩ hP hS (dk_at dkX12_canOpen_2 8 rfl)
            · have c25 : ¬ 10 ≤ z19 := mt (i_le ⟨by decide, by decide⟩ (rb rz19 (by decide) (by decide))).mpr c25
              refine lv_iload_n hx hb (dk_at dkX12_canOpen_2 1 rfl) rfl (lv_at hl 3 rfl) ?_
              refine lv_iload hx hb (dk_at dkX12_canOpen_2 2 rfl) (lv_at hl 0 rfl) ?_
              refine lv_ishr hx hb (dk_at dkX12_canOpen_2 3 rfl) ?_
              refine x_absE (fun z26 gz26 hz26 => ?_)
              refine lv_iconst (v := iI 1) hx hb (dk_at dkX12_canOpen_2 4 rfl) (by decide +kernel) ?_
              refine lv_iand hx hb (dk_at dkX12_canOpen_2 5 rfl) ?_
              refine x_andE (b := 1) (by omega) (fun z27 gz27 hz27 => ?_)
              refine lv_if_ne (tgt := 69) hx hb (dk_at dkX12_canOpen_2 6 rfl) (by decide) (fun c28 => ?_) (fun c28 => ?_)
              · have c28 : ¬ z27 = 0 := mt (i_eq0 (by omega)).mpr c28
                exact J69_24 _ _ _ (fun zq ⟨mm1, hq⟩ => hk1 _ ⟨mm1 + 1, (u_d_X12_canOpen_1 ⟨f13, ⟨z14, gz14.out, (Or.inr ⟨c15, ⟨z16, ghw18, ⟨z19, gz19.out, ⟨z20, ghw22, (Or.inr ⟨c23, (Or.inr ⟨c25, ⟨z26, gz26.out, ⟨z27, gz27.out, (Or.inl ⟨c28, hq⟩)⟩⟩⟩)⟩)⟩⟩⟩⟩)⟩⟩)⟩) hP hS (lv_sub hl [0, 1, 2, 3, 4] rfl)
              · have c28 : z27 = 0 := (i_eq0 (by omega)).mp c28
                refine lv_iconst (v := iI 0) hx hb (dk_at dkX12_canOpen_2 7 rfl) (by decide +kernel) ?_
                exact RET 0 _ _ _ _ _ ⟨rfl, hk1 _ ⟨0 + 1, (u_d_X12_canOpen_1 ⟨f13, ⟨z14, gz14.out, (Or.inr ⟨c15, ⟨z16, ghw18, ⟨z19, gz19.out, ⟨z20, ghw22, (Or.inr ⟨c23, (Or.inr ⟨c25, ⟨z26, gz26.out, ⟨z27, gz27.out, (Or.inr ⟨c28, rfl⟩)⟩⟩⟩)⟩)⟩⟩⟩⟩)⟩⟩)⟩, by omega⟩ hP hS (dk_at dkX12_canOpen_2 8 rfl)
    exact L17_9 _ 0 _ _ _ (by omega) (by omega) (fun zq ⟨mm1, hq⟩ => (u_r_X12_canOpen ⟨z1, ghw3, ⟨z4, gz4.out, (Or.inl ⟨c5, ⟨mm1, hq⟩⟩)⟩⟩)) rfl hP hS (lv_sub hl [0, 1, 2, 3] rfl)
  · have c5 : ¬ z4 = 0 := mt (i_eq0 (rb rz4 (by decide) (by decide))).mpr c5
    refine lv_iconst (v := iI 0) hx hb (dk_at dkX12_canOpen_0 7 rfl) (by decide +kernel) ?_
    exact RET 0 _ _ _ _ _ ⟨rfl, (u_r_X12_canOpen ⟨z1, ghw3, ⟨z4, gz4.out, (Or.inr ⟨c5, rfl⟩)⟩⟩), by omega⟩ hP hS (dk_at dkX12_canOpen_0 8 rfl)

abbrev tr_r_X12_can (x1 : Int) (x2 : Int) (A : St) (z : Int) : Prop := (∃ z1 : Int, z1 = A 16 ((A 0 12)).toNat ∧ (∃ z2 : Int, z2 = oShl 1 z1 ∧ (∃ z3 : Int, q_X12_is x1 0 (z2 - 1) A z3 ∧ (((z3 = 0) ∧ (z = (-1))) ∨ ((¬ z3 = 0) ∧ (∃ z7 : Int, q_X12_isDoor x2 A z7 ∧ (((¬ z7 = 0) ∧ (∃ z11 : Int, q_X12_canOpen x1 x2 A z11 ∧ (((z11 = 0) ∧ (z = 0)) ∨ ((¬ z11 = 0) ∧ (z = 1))))) ∨ ((z7 = 0) ∧ (z = (-1))))))))))
def r_X12_can (x1 : Int) (x2 : Int) (A : St) (z : Int) : Prop := tr_r_X12_can x1 x2 A z
theorem u_r_X12_can {x1 : Int} {x2 : Int} {A : St} {z : Int} (h : tr_r_X12_can x1 x2 A z) : r_X12_can x1 x2 A z := h
def ws_mc_X12_can : List Cond := .code yX12_can cX12_can 3 (some .int) :: WX
set_option maxHeartbeats 4000000 in
set_option maxRecDepth 100000 in
theorem mc_X12_can (l : Launch) (dC : Nat → ClassId) (dI : Nat → Nat → Nat) (cB cI cJ cZ cQ : ClassId) (q : Nat → Nat) (A : St) (x1 x2 : Int) (hI : IM A) (hx1 : (-2147483648 : Int) ≤ x1 ∧ x1 ≤ 2147483647) (hx2 : (-2147483648 : Int) ≤ x2 ∧ x2 ≤ 2147483647) : XMi l yX12_can ws_mc_X12_can ({ frames := 3, cells := 0, slots := 0, locals := 69 } : Room) (dC, dI) (tyA cB cI cJ cZ cQ) (WM cI cJ cZ q) A [.ref (q 0), .int (iI x1), .int (iI x2)] (fun z u => A = u ∧ r_X12_can x1 x2 A z ∧ (-2147483648 ≤ z ∧ z ≤ 2147483647)) := by
  refine x_meti (cc := cX12_can) (maxL := 3) WM_adr (by decide +kernel) rfl (Nat.le_of_ble_eq_true rfl) (fun p e s m below meth c Q AS ls hx hb hml hown hts hK hDD hA0 hP hS hl RET => ?_)
  have hown : s.vm.findClass RX12 = some m.cls := hown
  have hl : lv_has ls 3 [(0, .ref (q 0)), (1, .int (iI x1)), (2, .int (iI x2))] := hl
  have hiX12 : ∀ w ∈ u_ws RX12 TX12 85, w ∈ ws_mc_X12_can := fun w h => List.mem_cons_of_mem _ (wx_lay w h)
  obtain ⟨H, hHe⟩ : ∃ H : Heap, H = s.heap := ⟨_, rfl⟩
  rw [← hHe] at hP
  have hS : va_S AS s.heap H [] := by rw [hHe]; exact hS
  suffices hgo : ∀ locs : List Loc, va_S AS s.heap H locs → W p l e (headSpec ws_mc_X12_can ({ frames := 3, cells := 0, slots := 0, locals := 69 } : Room)).room s m [.ref (q 0), .int (iI x1), .int (iI x2)].toArray below meth c H locs 0 0 Q (F0 m 0 ls []) by
    have := hgo [] hS
    rw [hHe] at this
    exact this
  clear hS hHe
  intro locs hS
  refine lv_iload_n hx hb (dk_at dkX12_can_0 0 rfl) rfl (lv_at hl 1 rfl) ?_
  refine lv_iconst (v := iI 0) hx hb (dk_at dkX12_can_0 1 rfl) (by decide +kernel) ?_
  refine lv_iconst (v := iI 1) hx hb (dk_at dkX12_can_0 2 rfl) (by decide +kernel) ?_
  refine lv_aload_n hx hb (dk_at dkX12_can_0 3 rfl) rfl (lv_at hl 0 rfl) ?_
  refine va_get (D := (dC, dI)) (ci := 12) (v := .ref (q 16)) (C := RX12) (T := TX12) (N := 85) hx hb hts hiX12 hown hK hP 0 wm0 rfl 27 (by decide) (hts _ (List.mem_cons_of_mem _ wlq_1_15)) (fun _ h9 => h9) rfl (dk_at dkX12_can_0 4 rfl) ?_
  refine lv_aload_n hx hb (dk_at dkX12_can_0 5 rfl) rfl (lv_at hl 0 rfl) ?_
  refine va_get (D := (dC, dI)) (ci := 12) (v := .int (iI (A 0 12))) (C := RX12) (T := TX12) (N := 85) hx hb hts hiX12 hown hK hP 0 wm0 rfl 12 (by decide) (hts _ (List.mem_cons_of_mem _ wlq_4_14)) (fun _ h9 => h9) rfl (dk_at dkX12_can_0 6 rfl) ?_
  have r_A_0_12 : (0 : Int) ≤ (A 0 12) ∧ (A 0 12) ≤ 1 := hI 0 12
  refine x_iald hx hb hK hP 16 1 wm16 rfl (by omega) (by decide) (dk_at dkX12_can_0 7 rfl) (fun z1 hz1 => ?_)
  have rz1 : (0 : Int) ≤ z1 ∧ z1 ≤ 3 := by rw [hz1]; exact hI 16 _
  have gz1 := Hd.mk hz1
  have hz1 : z1 = A 16 ((A 0 12)).toNat := hz1
  refine x_shl1E (M := 3) (t := 8) hx hb (dk_at dkX12_can_0 8 rfl) (by omega) (by decide) (by decide) (fun z2 gz2 hz2 => ?_)
  refine lv_iconst (v := iI 1) hx hb (dk_at dkX12_can_0 9 rfl) (by decide +kernel) ?_
  refine x_subv (v := z2 - 1) hx hb (dk_at dkX12_can_0 10 rfl) (by omega) ?_
  refine x_callSi (As := [.int (iI x1), .int (iI 0), .int (iI (z2 - 1))]) (rest := []) ⟨hx, hb, hml, hown, hts⟩ (mc_X12_is l dC dI cB cI cJ cZ cQ q _ x1 0 (z2 - 1) hI hx1 ⟨by decide, by decide⟩ (by omega)) (va_cwS 3 hts (goodS wlq_1_27 wlq_1_28 wlq_0_8 wlq_0_0) rfl rfl rfl (by decide +kernel) ⟨Nat.le_of_ble_eq_true rfl, Nat.le_of_ble_eq_true rfl⟩) hK hDD hA0 hP hS rfl hl.1 (Nat.le_of_ble_eq_true rfl) (dk_at dkX12_can_0 11 rfl) (fun z3 A4 H locs hw5 hP hS => ?_)
  obtain ⟨rfl, hw5⟩ := hw5
  have ghw5 : q_X12_is x1 0 (z2 - 1) A z3 := hw5
  have hw5 := hw5.2
  have rz3 : 0 ≤ z3 ∧ z3 ≤ 1 := hw5.1
  refine lv_if_eq (tgt := 29) hx hb (dk_at dkX12_can_0 12 rfl) (by decide) (fun c6 => ?_) (fun c6 => ?_)
  · have c6 : z3 = 0 := (i_eq0 (rb rz3 (by decide) (by decide))).mp c6
    have hw5b := mt hw5.2.mpr (by omega)
    clear hw5
    refine lv_iconst (v := iI (-1)) hx hb (dk_at dkX12_can_1 1 rfl) (by decide +kernel) ?_
    refine lv_goto (tgt := 47) hx hb (dk_at dkX12_can_1 2 rfl) (by decide) ?_
    exact RET (-1) _ _ _ _ _ ⟨rfl, (u_r_X12_can ⟨z1, gz1.out, ⟨z2, gz2.out, ⟨z3, ghw5, (Or.inl ⟨c6, rfl⟩)⟩⟩⟩), by omega⟩ hP hS (dk_at dkX12_can_1 11 rfl)
  · have c6 : ¬ z3 = 0 := mt (i_eq0 (rb rz3 (by decide) (by decide))).mpr c6
    have hw5b := hw5.2.mp (by omega)
    clear hw5
    refine lv_aload_n hx hb (dk_at dkX12_can_0 13 rfl) rfl (lv_at hl 0 rfl) ?_
    refine lv_iload_n hx hb (dk_at dkX12_can_0 14 rfl) rfl (lv_at hl 2 rfl) ?_
    refine x_calli (As := [.int (iI x2)]) (rest := []) ⟨hx, hb, hml, hown, hts⟩ (mc_X12_isDoorB l dC dI cB cI cJ cZ cQ q _ x2 hI hx2) (cwV 1 hts (goodV wlq_5_14 wlq_5_15 wlq_5_16 wlq_0_8 wlq_4_38) rfl rfl rfl (by decide +kernel) ⟨Nat.le_of_ble_eq_true rfl, Nat.le_of_ble_eq_true rfl⟩) hK hDD hA0 hP hS 0 12 wm0 rfl rfl hl.1 (Nat.le_of_ble_eq_true rfl) (dk_at dkX12_can_0 15 rfl) (fun z7 A8 H locs hw9 hP hS => ?_)
    obtain ⟨rfl, hw9⟩ := hw9
    have ghw9 : q_X12_isDoor x2 A z7 := hw9
    have hw9 := hw9.2
    have rz7 : 0 ≤ z7 ∧ z7 ≤ 1 := hw9.1
    refine lv_if_ne (tgt := 33) hx hb (dk_at dkX12_can_1 0 rfl) (by decide) (fun c10 => ?_) (fun c10 => ?_)
    · have c10 : ¬ z7 = 0 := mt (i_eq0 (rb rz7 (by decide) (by decide))).mpr c10
      have hw9b := hw9.2.mp (by omega)
      clear hw9
      refine lv_aload_n hx hb (dk_at dkX12_can_1 3 rfl) rfl (lv_at hl 0 rfl) ?_
      refine lv_iload_n hx hb (dk_at dkX12_can_1 4 rfl) rfl (lv_at hl 1 rfl) ?_
      refine lv_iload_n hx hb (dk_at dkX12_can_1 5 rfl) rfl (lv_at hl 2 rfl) ?_
      refine x_calli (As := [.int (iI x1), .int (iI x2)]) (rest := []) ⟨hx, hb, hml, hown, hts⟩ (mc_X12_canOpen l dC dI cB cI cJ cZ cQ q _ x1 x2 hI hx1 (by omega)) (cwV 2 hts (goodV wlq_7_43 wlq_7_44 wlq_7_45 wlq_0_8 wlq_7_41) rfl rfl rfl (by decide +kernel) ⟨Nat.le_of_ble_eq_true rfl, Nat.le_of_ble_eq_true rfl⟩) hK hDD hA0 hP hS 0 12 wm0 rfl rfl hl.1 (Nat.le_of_ble_eq_true rfl) (dk_at dkX12_can_1 6 rfl) (fun z11 A12 H locs hw13 hP hS => ?_)
      obtain ⟨rfl, hw13⟩ := hw13
      have ghw13 : q_X12_canOpen x1 x2 A z11 := hw13
      have hw13 := hw13.2
      refine lv_if_eq (tgt := 46) hx hb (dk_at dkX12_can_1 7 rfl) (by decide) (fun c14 => ?_) (fun c14 => ?_)
      · have c14 : z11 = 0 := (i_eq0 (rb hw13 (by decide) (by decide))).mp c14
        refine lv_iconst (v := iI 0) hx hb (dk_at dkX12_can_1 10 rfl) (by decide +kernel) ?_
        exact RET 0 _ _ _ _ _ ⟨rfl, (u_r_X12_can ⟨z1, gz1.out, ⟨z2, gz2.out, ⟨z3, ghw5, (Or.inr ⟨c6, ⟨z7, ghw9, (Or.inl ⟨c10, ⟨z11, ghw13, (Or.inl ⟨c14, rfl⟩)⟩⟩)⟩⟩)⟩⟩⟩), by omega⟩ hP hS (dk_at dkX12_can_1 11 rfl)
      · have c14 : ¬ z11 = 0 := mt (i_eq0 (rb hw13 (by decide) (by decide))).mpr c14
        refine lv_iconst (v := iI 1) hx hb (dk_at dkX12_can_1 8 rfl) (by decide +kernel) ?_
        refine lv_goto (tgt := 47) hx hb (dk_at dkX12_can_1 9 rfl) (by decide) ?_
        exact RET 1 _ _ _ _ _ ⟨rfl, (u_r_X12_can ⟨z1, gz1.out, ⟨z2, gz2.out, ⟨z3, ghw5, (Or.inr ⟨c6, ⟨z7, ghw9, (Or.inl ⟨c10, ⟨z11, ghw13, (Or.inr ⟨c14, rfl⟩)⟩⟩)⟩⟩)⟩⟩⟩), by omega⟩ hP hS (dk_at dkX12_can_1 11 rfl)
    · have c10 : z7 = 0 := (i_eq0 (rb rz7 (by decide) (by decide))).mp c10
      clear hw9
      refine lv_iconst (v := iI (-1)) hx hb (dk_at dkX12_can_1 1 rfl) (by decide +kernel) ?_
      refine lv_goto (tgt := 47) hx hb (dk_at dkX12_can_1 2 rfl) (by decide) ?_
      exact RET (-1) _ _ _ _ _ ⟨rfl, (u_r_X12_can ⟨z1, gz1.out, ⟨z2, gz2.out, ⟨z3, ghw5, (Or.inr ⟨c6, ⟨z7, ghw9, (Or.inr ⟨c10, rfl⟩)⟩⟩)⟩⟩⟩), by omega⟩ hP hS (dk_at dkX12_can_1 11 rfl)

abbrev tr_d_X12_crosses_6 (z13 : Int) (z29 : Int) (z : Int) (z46 : Int) : Prop := ((0 ≤ z46 ∧ z46 ≤ 1) ∧ (((¬ z13 = 0) ∧ (z = 1)) ∨ ((z13 = 0) ∧ (((¬ z29 = 0) ∧ (z = 1)) ∨ ((z29 = 0) ∧ (((z46 = 0) ∧ (z = 0)) ∨ ((¬ z46 = 0) ∧ (z = 1))))))))
def d_X12_crosses_6 (z13 : Int) (z29 : Int) (z : Int) (z46 : Int) : Prop := tr_d_X12_crosses_6 z13 z29 z z46
theorem u_d_X12_crosses_6 {z13 : Int} {z29 : Int} {z : Int} {z46 : Int} (h : tr_d_X12_crosses_6 z13 z29 z z46) : d_X12_crosses_6 z13 z29 z z46 := h
abbrev tr_d_X12_crosses_5 (z13 : Int) (z29 : Int) (z : Int) : Prop := (d_X12_crosses_6 z13 z29 z 0)
def d_X12_crosses_5 (z13 : Int) (z29 : Int) (z : Int) : Prop := tr_d_X12_crosses_5 z13 z29 z
theorem u_d_X12_crosses_5 {z13 : Int} {z29 : Int} {z : Int} (h : tr_d_X12_crosses_5 z13 z29 z) : d_X12_crosses_5 z13 z29 z := h
abbrev tr_d_X12_crosses_4 (x1 : Int) (x2 : Int) (z13 : Int) (A : St) (z : Int) (z29 : Int) : Prop := ((0 ≤ z29 ∧ z29 ≤ 1) ∧ (((x1 = x2) ∧ (d_X12_crosses_5 z13 z29 z)) ∨ ((¬ x1 = x2) ∧ (∃ z36 : Int, z36 = A 26 (6 * (A 0 12) + x1).toNat ∧ (∃ z37 : Int, z37 = A 26 (6 * (A 0 12) + x2).toNat ∧ (((¬ z36 = z37) ∧ (d_X12_crosses_5 z13 z29 z)) ∨ ((z36 = z37) ∧ (∃ z39 : Int, z39 = A 27 (6 * (A 0 12) + x1).toNat ∧ (∃ z40 : Int, z40 = A 28 (6 * (A 0 12) + x2).toNat ∧ (((z40 ≤ z39) ∧ (d_X12_crosses_5 z13 z29 z)) ∨ ((¬ z40 ≤ z39) ∧ (∃ z42 : Int, z42 = A 27 (6 * (A 0 12) + x2).toNat ∧ (∃ z43 : Int, z43 = A 28 (6 * (A 0 12) + x1).toNat ∧ (((z43 ≤ z42) ∧ (d_X12_crosses_5 z13 z29 z)) ∨ ((¬ z43 ≤ z42) ∧ (d_X12_crosses_6 z13 z29 z 1))))))))))))))))
def d_X12_crosses_4 (x1 : Int) (x2 : Int) (z13 : Int) (A : St) (z : Int) (z29 : Int) : Prop := tr_d_X12_crosses_4 x1 x2 z13 A z z29
theorem u_d_X12_crosses_4 {x1 : Int} {x2 : Int} {z13 : Int} {A : St} {z : Int} {z29 : Int} (h : tr_d_X12_crosses_4 x1 x2 z13 A z z29) : d_X12_crosses_4 x1 x2 z13 A z z29 := h
abbrev tr_d_X12_crosses_3 (x1 : Int) (x2 : Int) (z13 : Int) (A : St) (z : Int) : Prop := (d_X12_crosses_4 x1 x2 z13 A z 0)
def d_X12_crosses_3 (x1 : Int) (x2 : Int) (z13 : Int) (A : St) (z : Int) : Prop := tr_d_X12_crosses_3 x1 x2 z13 A z
theorem u_d_X12_crosses_3 {x1 : Int} {x2 : Int} {z13 : Int} {A : St} {z : Int} (h : tr_d_X12_crosses_3 x1 x2 z13 A z) : d_X12_crosses_3 x1 x2 z13 A z := h
abbrev tr_d_X12_crosses_2 (x1 : Int) (x2 : Int) (A : St) (z : Int) (z13 : Int) : Prop := ((0 ≤ z13 ∧ z13 ≤ 1) ∧ (∃ z17 : Int, z17 = A 27 (6 * (A 0 12) + x2).toNat ∧ (∃ z18 : Int, z18 = A 27 (6 * (A 0 12) + x1).toNat ∧ (((z18 ≤ z17) ∧ (d_X12_crosses_3 x1 x2 z13 A z)) ∨ ((¬ z18 ≤ z17) ∧ (∃ z22 : Int, z22 = A 27 (6 * (A 0 12) + x1).toNat ∧ (∃ z23 : Int, z23 = A 28 (6 * (A 0 12) + x2).toNat ∧ (((z23 ≤ z22) ∧ (d_X12_crosses_3 x1 x2 z13 A z)) ∨ ((¬ z23 ≤ z22) ∧ (∃ z25 : Int, z25 = A 28 (6 * (A 0 12) + x2).toNat ∧ (∃ z26 : Int, z26 = A 28 (6 * (A 0 12) + x1).toNat ∧ (((z26 ≤ z25) ∧ (d_X12_crosses_3 x1 x2 z13 A z)) ∨ ((¬ z26 ≤ z25) ∧ (d_X12_crosses_4 x1 x2 z13 A z 1))))))))))))))
def d_X12_crosses_2 (x1 : Int) (x2 : Int) (A : St) (z : Int) (z13 : Int) : Prop := tr_d_X12_crosses_2 x1 x2 A z z13
theorem u_d_X12_crosses_2 {x1 : Int} {x2 : Int} {A : St} {z : Int} {z13 : Int} (h : tr_d_X12_crosses_2 x1 x2 A z z13) : d_X12_crosses_2 x1 x2 A z z13 := h
abbrev tr_d_X12_crosses_1 (x1 : Int) (x2 : Int) (A : St) (z : Int) : Prop := (d_X12_crosses_2 x1 x2 A z 0)
def d_X12_crosses_1 (x1 : Int) (x2 : Int) (A : St) (z : Int) : Prop := tr_d_X12_crosses_1 x1 x2 A z
theorem u_d_X12_crosses_1 {x1 : Int} {x2 : Int} {A : St} {z : Int} (h : tr_d_X12_crosses_1 x1 x2 A z) : d_X12_crosses_1 x1 x2 A z := h
abbrev tr_r_X12_crosses (x1 : Int) (x2 : Int) (A : St) (z : Int) : Prop := (∃ z1 : Int, z1 = A 27 (6 * (A 0 12) + x1).toNat ∧ (∃ z2 : Int, z2 = A 27 (6 * (A 0 12) + x2).toNat ∧ (((z2 ≤ z1) ∧ (d_X12_crosses_1 x1 x2 A z)) ∨ ((¬ z2 ≤ z1) ∧ (∃ z6 : Int, z6 = A 27 (6 * (A 0 12) + x2).toNat ∧ (∃ z7 : Int, z7 = A 28 (6 * (A 0 12) + x1).toNat ∧ (((z7 ≤ z6) ∧ (d_X12_crosses_1 x1 x2 A z)) ∨ ((¬ z7 ≤ z6) ∧ (∃ z9 : Int, z9 = A 28 (6 * (A 0 12) + x1).toNat ∧ (∃ z10 : Int, z10 = A 28 (6 * (A 0 12) + x2).toNat ∧ (((z10 ≤ z9) ∧ (d_X12_crosses_1 x1 x2 A z)) ∨ ((¬ z10 ≤ z9) ∧ (d_X12_crosses_2 x1 x2 A z 1)))))))))))))
def r_X12_crosses (x1 : Int) (x2 : Int) (A : St) (z : Int) : Prop := tr_r_X12_crosses x1 x2 A z
theorem u_r_X12_crosses {x1 : Int} {x2 : Int} {A : St} {z : Int} (h : tr_r_X12_crosses x1 x2 A z) : r_X12_crosses x1 x2 A z := h
def q_X12_crosses (x1 : Int) (x2 : Int) (A : St) (z : Int) : Prop := r_X12_crosses x1 x2 A z ∧ (0 ≤ z ∧ z ≤ 1)
def ws_mc_X12_crosses : List Cond := .code yX12_crosses cX12_crosses 8 (some .boolean) :: WX
set_option maxHeartbeats 4000000 in
set_option maxRecDepth 100000 in
theorem mc_X12_crosses (l : Launch) (dC : Nat → ClassId) (dI : Nat → Nat → Nat) (cB cI cJ cZ cQ : ClassId) (q : Nat → Nat) (A : St) (x1 x2 : Int) (hI : IM A) (hx1 : (0 : Int) ≤ x1 ∧ x1 ≤ 7) (hx2 : (0 : Int) ≤ x2 ∧ x2 ≤ 7) : XMi l yX12_crosses ws_mc_X12_crosses ({ frames := 0, cells := 0, slots := 0, locals := 0 } : Room) (dC, dI) (tyA cB cI cJ cZ cQ) (WM cI cJ cZ q) A [.ref (q 0), .int (iI x1), .int (iI x2)] (fun z u => A = u ∧ r_X12_crosses x1 x2 A z ∧ (0 ≤ z ∧ z ≤ 1)) := by
  refine x_metz (cc := cX12_crosses) (maxL := 8) WM_adr (by decide +kernel) rfl (Nat.le_of_ble_eq_true rfl) (fun z u h => h.2.2) (fun p e s m below meth c Q AS ls hx hb hml hown hts hK hDD hA0 hP hS hl RET => ?_)
  have hown : s.vm.findClass RX12 = some m.cls := hown
  have hl : lv_has ls 8 [(0, .ref (q 0)), (1, .int (iI x1)), (2, .int (iI x2))] := hl
  have hiX12 : ∀ w ∈ u_ws RX12 TX12 85, w ∈ ws_mc_X12_crosses := fun w h => List.mem_cons_of_mem _ (wx_lay w h)
  obtain ⟨H, hHe⟩ : ∃ H : Heap, H = s.heap := ⟨_, rfl⟩
  rw [← hHe] at hP
  have hS : va_S AS s.heap H [] := by rw [hHe]; exact hS
  suffices hgo : ∀ locs : List Loc, va_S AS s.heap H locs → W p l e (headSpec ws_mc_X12_crosses ({ frames := 0, cells := 0, slots := 0, locals := 0 } : Room)).room s m [.ref (q 0), .int (iI x1), .int (iI x2)].toArray below meth c H locs 0 0 Q (F0 m 0 ls []) by
    have := hgo [] hS
    rw [hHe] at this
    exact this
  clear hS hHe
  intro locs hS
  refine lv_bipush (v := iI 6) hx hb (dk_at dkX12_crosses_0 0 rfl) (by decide +kernel) ?_
  refine lv_aload_n hx hb (dk_at dkX12_crosses_0 1 rfl) rfl (lv_at hl 0 rfl) ?_
  refine va_get (D := (dC, dI)) (ci := 12) (v := .int (iI (A 0 12))) (C := RX12) (T := TX12) (N := 85) hx hb hts hiX12 hown hK hP 0 wm0 rfl 12 (by decide) (hts _ (List.mem_cons_of_mem _ wlq_4_14)) (fun _ h9 => h9) rfl (dk_at dkX12_crosses_0 2 rfl) ?_
  have r_A_0_12 : (0 : Int) ≤ (A 0 12) ∧ (A 0 12) ≤ 1 := hI 0 12
  refine x_mulv (v := 6 * (A 0 12)) hx hb (dk_at dkX12_crosses_0 3 rfl) (by omega) ?_
  refine lv_iload_n hx hb (dk_at dkX12_crosses_0 4 rfl) rfl (lv_at hl 1 rfl) ?_
  refine x_addv (v := 6 * (A 0 12) + x1) hx hb (dk_at dkX12_crosses_0 5 rfl) (by omega) ?_
  refine lv_istore_n (lv' := [(3, .int (iI (6 * (A 0 12) + x1))), (0, .ref (q 0)), (1, .int (iI x1)), (2, .int (iI x2))]) hx hb (dk_at dkX12_crosses_0 6 rfl) rfl hl (by decide) rfl (fun ls hl => ?_)
  refine lv_bipush (v := iI 6) hx hb (dk_at dkX12_crosses_0 7 rfl) (by decide +kernel) ?_
  refine lv_aload_n hx hb (dk_at dkX12_crosses_0 8 rfl) rfl (lv_at hl 1 rfl) ?_
  refine va_get (D := (dC, dI)) (ci := 12) (v := .int (iI (A 0 12))) (C := RX12) (T := TX12) (N := 85) hx hb hts hiX12 hown hK hP 0 wm0 rfl 12 (by decide) (hts _ (List.mem_cons_of_mem _ wlq_4_14)) (fun _ h9 => h9) rfl (dk_at dkX12_crosses_0 9 rfl) ?_
  refine x_mulv (v := 6 * (A 0 12)) hx hb (dk_at dkX12_crosses_0 10 rfl) (by omega) ?_
  refine lv_iload_n hx hb (dk_at dkX12_crosses_0 11 rfl) rfl (lv_at hl 3 rfl) ?_
  refine x_addv (v := 6 * (A 0 12) + x2) hx hb (dk_at dkX12_crosses_0 12 rfl) (by omega) ?_
  refine lv_istore (lv' := [(4, .int (iI (6 * (A 0 12) + x2))), (3, .int (iI (6 * (A 0 12) + x1))), (0, .ref (q 0)), (1, .int (iI x1)), (2, .int (iI x2))]) hx hb (dk_at dkX12_crosses_0 13 rfl) hl (by decide) rfl (fun ls hl => ?_)
  refine lv_aload_n hx hb (dk_at dkX12_crosses_0 14 rfl) rfl (lv_at hl 2 rfl) ?_
  refine va_get (D := (dC, dI)) (ci := 12) (v := .ref (q 27)) (C := RX12) (T := TX12) (N := 85) hx hb hts hiX12 hown hK hP 0 wm0 rfl 38 (by decide) (hts _ (List.mem_cons_of_mem _ wlq_3_22)) (fun _ h9 => h9) rfl (dk_at dkX12_crosses_0 15 rfl) ?_
  refine lv_iload_n hx hb (dk_at dkX12_crosses_1 0 rfl) rfl (lv_at hl 1 rfl) ?_
  refine x_iald hx hb hK hP 27 1 wm27 rfl (by omega) (by decide) (dk_at dkX12_crosses_1 1 rfl) (fun z1 hz1 => ?_)
  have rz1 : (-2147483648 : Int) ≤ z1 ∧ z1 ≤ 2147483647 := by rw [hz1]; exact hI 27 _
  have gz1 := Hd.mk hz1
  have hz1 : z1 = A 27 (6 * (A 0 12) + x1).toNat := hz1
  refine lv_aload_n hx hb (dk_at dkX12_crosses_1 2 rfl) rfl (lv_at hl 2 rfl) ?_
  refine va_get (D := (dC, dI)) (ci := 12) (v := .ref (q 27)) (C := RX12) (T := TX12) (N := 85) hx hb hts hiX12 hown hK hP 0 wm0 rfl 38 (by decide) (hts _ (List.mem_cons_of_mem _ wlq_3_22)) (fun _ h9 => h9) rfl (dk_at dkX12_crosses_1 3 rfl) ?_
  refine lv_iload hx hb (dk_at dkX12_crosses_1 4 rfl) (lv_at hl 0 rfl) ?_
  refine x_iald hx hb hK hP 27 1 wm27 rfl (by omega) (by decide) (dk_at dkX12_crosses_1 5 rfl) (fun z2 hz2 => ?_)
  have rz2 : (-2147483648 : Int) ≤ z2 ∧ z2 ≤ 2147483647 := by rw [hz2]; exact hI 27 _
  have gz2 := Hd.mk hz2
  have hz2 : z2 = A 27 (6 * (A 0 12) + x2).toNat := hz2
  have J74_5 : ∀ (z13 : Int) (H : Heap) (locs : List Loc) (ls : Array Slot), (0 ≤ z13 ∧ z13 ≤ 1) → ((z13 = 1 ∧ ¬ z2 ≤ z1) ∨ (z13 = 0)) → (∀ (z : Int), (d_X12_crosses_2 x1 x2 A z z13) → r_X12_crosses x1 x2 A z) → va_P (dC, dI) vwCl (WM cI cJ cZ q A) H → va_S AS s.heap H locs → lv_has ls 8 [(4, .int (iI (6 * (A 0 12) + x2))), (3, .int (iI (6 * (A 0 12) + x1))), (0, .ref (q 0)), (1, .int (iI x1)), (2, .int (iI x2))] → W p l e (headSpec ws_mc_X12_crosses ({ frames := 0, cells := 0, slots := 0, locals := 0 } : Room)).room s m [.ref (q 0), .int (iI x1), .int (iI x2)].toArray below meth c H locs 0 0 Q (F0 m 74 ls [.int (iI z13)]) := by
    intro z13 H locs ls f15 f16 hk2 hP hS hl
    refine lv_istore (lv' := [(5, .int (iI z13)), (4, .int (iI (6 * (A 0 12) + x2))), (3, .int (iI (6 * (A 0 12) + x1))), (0, .ref (q 0)), (1, .int (iI x1)), (2, .int (iI x2))]) hx hb (dk_at dkX12_crosses_2 12 rfl) hl (by decide) rfl (fun ls hl => ?_)
    refine lv_aload_n hx hb (dk_at dkX12_crosses_2 13 rfl) rfl (lv_at hl 3 rfl) ?_
    refine va_get (D := (dC, dI)) (ci := 12) (v := .ref (q 27)) (C := RX12) (T := TX12) (N := 85) hx hb hts hiX12 hown hK hP 0 wm0 rfl 38 (by decide) (hts _ (List.mem_cons_of_mem _ wlq_3_22)) (fun _ h9 => h9) rfl (dk_at dkX12_crosses_2 14 rfl) ?_
    refine lv_iload hx hb (dk_at dkX12_crosses_2 15 rfl) (lv_at hl 1 rfl) ?_
    refine x_iald hx hb hK hP 27 1 wm27 rfl (by omega) (by decide) (dk_at dkX12_crosses_3 0 rfl) (fun z17 hz17 => ?_)
    have rz17 : (-2147483648 : Int) ≤ z17 ∧ z17 ≤ 2147483647 := by rw [hz17]; exact hI 27 _
    have gz17 := Hd.mk hz17
    have hz17 : z17 = A 27 (6 * (A 0 12) + x2).toNat := hz17
    have ez17 : z17 = z2 := hz17.trans hz2.symm
    refine lv_aload_n hx hb (dk_at dkX12_crosses_3 1 rfl) rfl (lv_at hl 3 rfl) ?_
    refine va_get (D := (dC, dI)) (ci := 12) (v := .ref (q 27)) (C := RX12) (T := TX12) (N := 85) hx hb hts hiX12 hown hK hP 0 wm0 rfl 38 (by decide) (hts _ (List.mem_cons_of_mem _ wlq_3_22)) (fun _ h9 => h9) rfl (dk_at dkX12_crosses_3 2 rfl) ?_
    refine lv_iload_n hx hb (dk_at dkX12_crosses_3 3 rfl) rfl (lv_at hl 2 rfl) ?_
    refine x_iald hx hb hK hP 27 1 wm27 rfl (by omega) (by decide) (dk_at dkX12_crosses_3 4 rfl) (fun z18 hz18 => ?_)
    have rz18 : (-2147483648 : Int) ≤ z18 ∧ z18 ≤ 2147483647 := by rw [hz18]; exact hI 27 _
    have gz18 := Hd.mk hz18
    have hz18 : z18 = A 27 (6 * (A 0 12) + x1).toNat := hz18
    have ez18 : z18 = z1 := hz18.trans hz1.symm
    have J129_21 : ∀ (z29 : Int) (H : Heap) (locs : List Loc) (ls : Array Slot), (0 ≤ z29 ∧ z29 ≤ 1) → ((z29 = 1 ∧ ¬ z18 ≤ z17) ∨ (z29 = 0)) → (∀ (z : Int), (d_X12_crosses_4 x1 x2 z13 A z z29) → r_X12_crosses x1 x2 A z) → va_P (dC, dI) vwCl (WM cI cJ cZ q A) H → va_S AS s.heap H locs → lv_has ls 8 [(5, .int (iI z13)), (4, .int (iI (6 * (A 0 12) + x2))), (3, .int (iI (6 * (A 0 12) + x1))), (0, .ref (q 0)), (1, .int (iI x1)), (2, .int (iI x2))] → W p l e (headSpec ws_mc_X12_crosses ({ frames := 0, cells := 0, slots := 0, locals := 0 } : Room)).room s m [.ref (q 0), .int (iI x1), .int (iI x2)].toArray below meth c H locs 0 0 Q (F0 m 129 ls [.int (iI z29)]) := by
      intro z29 H locs ls f31 f32 hk4 hP hS hl
      refine lv_istore (lv' := [(6, .int (iI z29)), (5, .int (iI z13)), (4, .int (iI (6 * (A 0 12) + x2))), (3, .int (iI (6 * (A 0 12) + x1))), (0, .ref (q 0)), (1, .int (iI x1)), (2, .int (iI x2))]) hx hb (dk_at dkX12_crosses_4 11 rfl) hl (by decide) rfl (fun ls hl => ?_)
      refine lv_iload_n hx hb (dk_at dkX12_crosses_4 12 rfl) rfl (lv_at hl 5 rfl) ?_
      refine lv_iload_n hx hb (dk_at dkX12_crosses_4 13 rfl) rfl (lv_at hl 6 rfl) ?_
      have J189_35 : ∀ (z46 : Int) (H : Heap) (locs : List Loc) (ls : Array Slot), (0 ≤ z46 ∧ z46 ≤ 1) → ((z46 = 1 ∧ ¬ x1 = x2) ∨ (z46 = 0)) → (∀ (z : Int), (d_X12_crosses_6 z13 z29 z z46) → r_X12_crosses x1 x2 A z) → va_P (dC, dI) vwCl (WM cI cJ cZ q A) H → va_S AS s.heap H locs → lv_has ls 8 [(6, .int (iI z29)), (5, .int (iI z13)), (4, .int (iI (6 * (A 0 12) + x2))), (3, .int (iI (6 * (A 0 12) + x1))), (0, .ref (q 0)), (1, .int (iI x1)), (2, .int (iI x2))] → W p l e (headSpec ws_mc_X12_crosses ({ frames := 0, cells := 0, slots := 0, locals := 0 } : Room)).room s m [.ref (q 0), .int (iI x1), .int (iI x2)].toArray below meth c H locs 0 0 Q (F0 m 189 ls [.int (iI z46)]) := by
        intro z46 H locs ls f48 f49 hk6 hP hS hl
        refine lv_istore (lv' := [(7, .int (iI z46)), (6, .int (iI z29)), (5, .int (iI z13)), (4, .int (iI (6 * (A 0 12) + x2))), (3, .int (iI (6 * (A 0 12) + x1))), (0, .ref (q 0)), (1, .int (iI x1)), (2, .int (iI x2))]) hx hb (dk_at dkX12_crosses_6 13 rfl) hl (by decide) rfl (fun ls hl => ?_)
        refine lv_iload hx hb (dk_at dkX12_crosses_6 14 rfl) (lv_at hl 2 rfl) ?_
        refine lv_if_ne (tgt := 206) hx hb (dk_at dkX12_crosses_6 15 rfl) (by decide) (fun c50 => ?_) (fun c50 => ?_)
        · have c50 : ¬ z13 = 0 := mt (i_eq0 (rb f15 (by decide) (by decide))).mpr c50
          refine lv_iconst (v := iI 1) hx hb (dk_at dkX12_crosses_7 4 rfl) (by decide +kernel) ?_
          refine lv_goto (tgt := 211) hx hb (dk_at dkX12_crosses_7 5 rfl) (by decide) ?_
          exact RET 1 _ _ _ _ _ ⟨rfl, hk6 _ (u_d_X12_crosses_6 ⟨f48, (Or.inl ⟨c50, rfl⟩)⟩), by omega⟩ hP hS (dk_at dkX12_crosses_7 7 rfl)
        · have c50 : z13 = 0 := (i_eq0 (rb f15 (by decide) (by decide))).mp c50
          refine lv_iload hx hb (dk_at dkX12_crosses_7 0 rfl) (lv_at hl 1 rfl) ?_
          refine lv_if_ne (tgt := 206) hx hb (dk_at dkX12_crosses_7 1 rfl) (by decide) (fun c51 => ?_) (fun c51 => ?_)
          · have c51 : ¬ z29 = 0 := mt (i_eq0 (rb f31 (by decide) (by decide))).mpr c51
            refine lv_iconst (v := iI 1) hx hb (dk_at dkX12_crosses_7 4 rfl) (by decide +kernel) ?_
            refine lv_goto (tgt := 211) hx hb (dk_at dkX12_crosses_7 5 rfl) (by decide) ?_
            exact RET 1 _ _ _ _ _ ⟨rfl, hk6 _ (u_d_X12_crosses_6 ⟨f48, (Or.inr ⟨c50, (Or.inl ⟨c51, rfl⟩)⟩)⟩), by omega⟩ hP hS (dk_at dkX12_crosses_7 7 rfl)
          · have c51 : z29 = 0 := (i_eq0 (rb f31 (by decide) (by decide))).mp c51
            refine lv_iload hx hb (dk_at dkX12_crosses_7 2 rfl) (lv_at hl 0 rfl) ?_
            refine lv_if_eq (tgt := 210) hx hb (dk_at dkX12_crosses_7 3 rfl) (by decide) (fun c52 => ?_) (fun c52 => ?_)
            · have c52 : z46 = 0 := (i_eq0 (rb f48 (by decide) (by decide))).mp c52
              refine lv_iconst (v := iI 0) hx hb (dk_at dkX12_crosses_7 6 rfl) (by decide +kernel) ?_
              exact RET 0 _ _ _ _ _ ⟨rfl, hk6 _ (u_d_X12_crosses_6 ⟨f48, (Or.inr ⟨c50, (Or.inr ⟨c51, (Or.inl ⟨c52, rfl⟩)⟩)⟩)⟩), by omega⟩ hP hS (dk_at dkX12_crosses_7 7 rfl)
            · have c52 : ¬ z46 = 0 := mt (i_eq0 (rb f48 (by decide) (by decide))).mpr c52
              refine lv_iconst (v := iI 1) hx hb (dk_at dkX12_crosses_7 4 rfl) (by decide +kernel) ?_
              refine lv_goto (tgt := 211) hx hb (dk_at dkX12_crosses_7 5 rfl) (by decide) ?_
              exact RET 1 _ _ _ _ _ ⟨rfl, hk6 _ (u_d_X12_crosses_6 ⟨f48, (Or.inr ⟨c50, (Or.inr ⟨c51, (Or.inr ⟨c52, rfl⟩)⟩)⟩)⟩), by omega⟩ hP hS (dk_at dkX12_crosses_7 7 rfl)
      have J188_34 : ∀ (H : Heap) (locs : List Loc) (ls : Array Slot), (∀ (z : Int), (d_X12_crosses_5 z13 z29 z) → r_X12_crosses x1 x2 A z) → va_P (dC, dI) vwCl (WM cI cJ cZ q A) H → va_S AS s.heap H locs → lv_has ls 8 [(6, .int (iI z29)), (5, .int (iI z13)), (4, .int (iI (6 * (A 0 12) + x2))), (3, .int (iI (6 * (A 0 12) + x1))), (0, .ref (q 0)), (1, .int (iI x1)), (2, .int (iI x2))] → W p l e (headSpec ws_mc_X12_crosses ({ frames := 0, cells := 0, slots := 0, locals := 0 } : Room)).room s m [.ref (q 0), .int (iI x1), .int (iI x2)].toArray below meth c H locs 0 0 Q (F0 m 188 ls []) := by
        intro H locs ls hk5 hP hS hl
        refine lv_iconst (v := iI 0) hx hb (dk_at dkX12_crosses_6 12 rfl) (by decide +kernel) ?_
        exact J189_35 0 _ _ _ (by omega) (by omega) (fun zq hq => hk5 _ (u_d_X12_crosses_5 hq)) hP hS (lv_sub hl [0, 1, 2, 3, 4, 5, 6] rfl)
      refine lv_icmp_eq (tgt := 188) hx hb (dk_at dkX12_crosses_4 14 rfl) (by decide) (fun c33 => ?_) (fun c33 => ?_)
      · have c33 : x1 = x2 := (i_eq (rb hx1 (by decide) (by decide)) (rb hx2 (by decide) (by decide))).mp c33
        exact J188_34 _ _ _ (fun zq hq => hk4 _ (u_d_X12_crosses_4 ⟨f31, (Or.inl ⟨c33, hq⟩)⟩)) hP hS (lv_sub hl [0, 1, 2, 3, 4, 5, 6] rfl)
      · have c33 : ¬ x1 = x2 := mt (i_eq (rb hx1 (by decide) (by decide)) (rb hx2 (by decide) (by decide))).mpr c33
        refine lv_aload_n hx hb (dk_at dkX12_crosses_4 15 rfl) rfl (lv_at hl 4 rfl) ?_
        refine va_get (D := (dC, dI)) (ci := 12) (v := .ref (q 26)) (C := RX12) (T := TX12) (N := 85) hx hb hts hiX12 hown hK hP 0 wm0 rfl 37 (by decide) (hts _ (List.mem_cons_of_mem _ wlq_3_21)) (fun _ h9 => h9) rfl (dk_at dkX12_crosses_5 0 rfl) ?_
        refine lv_iload_n hx hb (dk_at dkX12_crosses_5 1 rfl) rfl (lv_at hl 3 rfl) ?_
        refine x_iald hx hb hK hP 26 1 wm26 rfl (by omega) (by decide) (dk_at dkX12_crosses_5 2 rfl) (fun z36 hz36 => ?_)
        have rz36 : (0 : Int) ≤ z36 ∧ z36 ≤ 9 := by rw [hz36]; exact hI 26 _
        have gz36 := Hd.mk hz36
        have hz36 : z36 = A 26 (6 * (A 0 12) + x1).toNat := hz36
        refine lv_aload_n hx hb (dk_at dkX12_crosses_5 3 rfl) rfl (lv_at hl 4 rfl) ?_
        refine va_get (D := (dC, dI)) (ci := 12) (v := .ref (q 26)) (C := RX12) (T := TX12) (N := 85) hx hb hts hiX12 hown hK hP 0 wm0 rfl 37 (by decide) (hts _ (List.mem_cons_of_mem _ wlq_3_21)) (fun _ h9 => h9) rfl (dk_at dkX12_crosses_5 4 rfl) ?_
        refine lv_iload hx hb (dk_at dkX12_crosses_5 5 rfl) (lv_at hl 2 rfl) ?_
        refine x_iald hx hb hK hP 26 1 wm26 rfl (by omega) (by decide) (dk_at dkX12_crosses_5 6 rfl) (fun z37 hz37 => ?_)
        have rz37 : (0 : Int) ≤ z37 ∧ z37 ≤ 9 := by rw [hz37]; exact hI 26 _
        have gz37 := Hd.mk hz37
        have hz37 : z37 = A 26 (6 * (A 0 12) + x2).toNat := hz37
        refine lv_icmp_ne (tgt := 188) hx hb (dk_at dkX12_crosses_5 7 rfl) (by decide) (fun c38 => ?_) (fun c38 => ?_)
        · have c38 : ¬ z36 = z37 := mt (i_eq (rb rz36 (by decide) (by decide)) (rb rz37 (by decide) (by decide))).mpr c38
          exact J188_34 _ _ _ (fun zq hq => hk4 _ (u_d_X12_crosses_4 ⟨f31, (Or.inr ⟨c33, ⟨z36, gz36.out, ⟨z37, gz37.out, (Or.inl ⟨c38, hq⟩)⟩⟩⟩)⟩)) hP hS (lv_sub hl [0, 1, 2, 3, 4, 5, 6] rfl)
        · have c38 : z36 = z37 := (i_eq (rb rz36 (by decide) (by decide)) (rb rz37 (by decide) (by decide))).mp c38
          refine lv_aload_n hx hb (dk_at dkX12_crosses_5 8 rfl) rfl (lv_at hl 4 rfl) ?_
          refine va_get (D := (dC, dI)) (ci := 12) (v := .ref (q 27)) (C := RX12) (T := TX12) (N := 85) hx hb hts hiX12 hown hK hP 0 wm0 rfl 38 (by decide) (hts _ (List.mem_cons_of_mem _ wlq_3_22)) (fun _ h9 => h9) rfl (dk_at dkX12_crosses_5 9 rfl) ?_
          refine lv_iload_n hx hb (dk_at dkX12_crosses_5 10 rfl) rfl (lv_at hl 3 rfl) ?_
          refine x_iald hx hb hK hP 27 1 wm27 rfl (by omega) (by decide) (dk_at dkX12_crosses_5 11 rfl) (fun z39 hz39 => ?_)
          have rz39 : (-2147483648 : Int) ≤ z39 ∧ z39 ≤ 2147483647 := by rw [hz39]; exact hI 27 _
          have gz39 := Hd.mk hz39
          have hz39 : z39 = A 27 (6 * (A 0 12) + x1).toNat := hz39
          have ez39 : z39 = z1 := hz39.trans hz1.symm
          refine lv_aload_n hx hb (dk_at dkX12_crosses_5 12 rfl) rfl (lv_at hl 4 rfl) ?_
          refine va_get (D := (dC, dI)) (ci := 12) (v := .ref (q 28)) (C := RX12) (T := TX12) (N := 85) hx hb hts hiX12 hown hK hP 0 wm0 rfl 39 (by decide) (hts _ (List.mem_cons_of_mem _ wlq_3_23)) (fun _ h9 => h9) rfl (dk_at dkX12_crosses_5 13 rfl) ?_
          refine lv_iload hx hb (dk_at dkX12_crosses_5 14 rfl) (lv_at hl 2 rfl) ?_
          refine x_iald hx hb hK hP 28 1 wm28 rfl (by omega) (by decide) (dk_at dkX12_crosses_5 15 rfl) (fun z40 hz40 => ?_)
          have rz40 : (-2147483648 : Int) ≤ z40 ∧ z40 ≤ 2147483647 := by rw [hz40]; exact hI 28 _
          have gz40 := Hd.mk hz40
          have hz40 : z40 = A 28 (6 * (A 0 12) + x2).toNat := hz40
          refine lv_icmp_ge (tgt := 188) hx hb (dk_at dkX12_crosses_6 0 rfl) (by decide) (fun c41 => ?_) (fun c41 => ?_)
          · have c41 : z40 ≤ z39 := (i_le rz40 rz39).mp c41
            exact J188_34 _ _ _ (fun zq hq => hk4 _ (u_d_X12_crosses_4 ⟨f31, (Or.inr ⟨c33, ⟨z36, gz36.out, ⟨z37, gz37.out, (Or.inr ⟨c38, ⟨z39, gz39.out, ⟨z40, gz40.out, (Or.inl ⟨c41, hq⟩)⟩⟩⟩)⟩⟩⟩)⟩)) hP hS (lv_sub hl [0, 1, 2, 3, 4, 5, 6] rfl)
          · have c41 : ¬ z40 ≤ z39 := mt (i_le rz40 rz39).mpr c41
            refine lv_aload_n hx hb (dk_at dkX12_crosses_6 1 rfl) rfl (lv_at hl 4 rfl) ?_
            refine va_get (D := (dC, dI)) (ci := 12) (v := .ref (q 27)) (C := RX12) (T := TX12) (N := 85) hx hb hts hiX12 hown hK hP 0 wm0 rfl 38 (by decide) (hts _ (List.mem_cons_of_mem _ wlq_3_22)) (fun _ h9 => h9) rfl (dk_at dkX12_crosses_6 2 rfl) ?_
            refine lv_iload hx hb (dk_at dkX12_crosses_6 3 rfl) (lv_at hl 2 rfl) ?_
            refine x_iald hx hb hK hP 27 1 wm27 rfl (by omega) (by decide) (dk_at dkX12_crosses_6 4 rfl) (fun z42 hz42 => ?_)
            have rz42 : (-2147483648 : Int) ≤ z42 ∧ z42 ≤ 2147483647 := by rw [hz42]; exact hI 27 _
            have gz42 := Hd.mk hz42
            have hz42 : z42 = A 27 (6 * (A 0 12) + x2).toNat := hz42
            have ez42 : z42 = z2 := hz42.trans hz2.symm
            refine lv_aload_n hx hb (dk_at dkX12_crosses_6 5 rfl) rfl (lv_at hl 4 rfl) ?_
            refine va_get (D := (dC, dI)) (ci := 12) (v := .ref (q 28)) (C := RX12) (T := TX12) (N := 85) hx hb hts hiX12 hown hK hP 0 wm0 rfl 39 (by decide) (hts _ (List.mem_cons_of_mem _ wlq_3_23)) (fun _ h9 => h9) rfl (dk_at dkX12_crosses_6 6 rfl) ?_
            refine lv_iload_n hx hb (dk_at dkX12_crosses_6 7 rfl) rfl (lv_at hl 3 rfl) ?_
            refine x_iald hx hb hK hP 28 1 wm28 rfl (by omega) (by decide) (dk_at dkX12_crosses_6 8 rfl) (fun z43 hz43 => ?_)
            have rz43 : (-2147483648 : Int) ≤ z43 ∧ z43 ≤ 2147483647 := by rw [hz43]; exact hI 28 _
            have gz43 := Hd.mk hz43
            have hz43 : z43 = A 28 (6 * (A 0 12) + x1).toNat := hz43
            refine lv_icmp_ge (tgt := 188) hx hb (dk_at dkX12_crosses_6 9 rfl) (by decide) (fun c44 => ?_) (fun c44 => ?_)
            · have c44 : z43 ≤ z42 := (i_le rz43 rz42).mp c44
              exact J188_34 _ _ _ (fun zq hq => hk4 _ (u_d_X12_crosses_4 ⟨f31, (Or.inr ⟨c33, ⟨z36, gz36.out, ⟨z37, gz37.out, (Or.inr ⟨c38, ⟨z39, gz39.out, ⟨z40, gz40.out, (Or.inr ⟨c41, ⟨z42, gz42.out, ⟨z43, gz43.out, (Or.inl ⟨c44, hq⟩)⟩⟩⟩)⟩⟩⟩)⟩⟩⟩)⟩)) hP hS (lv_sub hl [0, 1, 2, 3, 4, 5, 6] rfl)
            · have c44 : ¬ z43 ≤ z42 := mt (i_le rz43 rz42).mpr c44
              refine lv_iconst (v := iI 1) hx hb (dk_at dkX12_crosses_6 10 rfl) (by decide +kernel) ?_
              refine lv_goto (tgt := 189) hx hb (dk_at dkX12_crosses_6 11 rfl) (by decide) ?_
              exact J189_35 1 _ _ _ (by omega) (by omega) (fun zq hq => hk4 _ (u_d_X12_crosses_4 ⟨f31, (Or.inr ⟨c33, ⟨z36, gz36.out, ⟨z37, gz37.out, (Or.inr ⟨c38, ⟨z39, gz39.out, ⟨z40, gz40.out, (Or.inr ⟨c41, ⟨z42, gz42.out, ⟨z43, gz43.out, (Or.inr ⟨c44, hq⟩)⟩⟩⟩)⟩⟩⟩)⟩⟩⟩)⟩)) hP hS (lv_sub hl [0, 1, 2, 3, 4, 5, 6] rfl)
    have J128_20 : ∀ (H : Heap) (locs : List Loc) (ls : Array Slot), (∀ (z : Int), (d_X12_crosses_3 x1 x2 z13 A z) → r_X12_crosses x1 x2 A z) → va_P (dC, dI) vwCl (WM cI cJ cZ q A) H → va_S AS s.heap H locs → lv_has ls 8 [(5, .int (iI z13)), (4, .int (iI (6 * (A 0 12) + x2))), (3, .int (iI (6 * (A 0 12) + x1))), (0, .ref (q 0)), (1, .int (iI x1)), (2, .int (iI x2))] → W p l e (headSpec ws_mc_X12_crosses ({ frames := 0, cells := 0, slots := 0, locals := 0 } : Room)).room s m [.ref (q 0), .int (iI x1), .int (iI x2)].toArray below meth c H locs 0 0 Q (F0 m 128 ls []) := by
      intro H locs ls hk3 hP hS hl
      refine lv_iconst (v := iI 0) hx hb (dk_at dkX12_crosses_4 10 rfl) (by decide +kernel) ?_
      exact J129_21 0 _ _ _ (by omega) (by omega) (fun zq hq => hk3 _ (u_d_X12_crosses_3 hq)) hP hS (lv_sub hl [0, 1, 2, 3, 4, 5] rfl)
    refine lv_icmp_ge (tgt := 128) hx hb (dk_at dkX12_crosses_3 5 rfl) (by decide) (fun c19 => ?_) (fun c19 => ?_)
    · have c19 : z18 ≤ z17 := (i_le rz18 rz17).mp c19
      exact J128_20 _ _ _ (fun zq hq => hk2 _ (u_d_X12_crosses_2 ⟨f15, ⟨z17, gz17.out, ⟨z18, gz18.out, (Or.inl ⟨c19, hq⟩)⟩⟩⟩)) hP hS (lv_sub hl [0, 1, 2, 3, 4, 5] rfl)
    · have c19 : ¬ z18 ≤ z17 := mt (i_le rz18 rz17).mpr c19
      refine lv_aload_n hx hb (dk_at dkX12_crosses_3 6 rfl) rfl (lv_at hl 3 rfl) ?_
      refine va_get (D := (dC, dI)) (ci := 12) (v := .ref (q 27)) (C := RX12) (T := TX12) (N := 85) hx hb hts hiX12 hown hK hP 0 wm0 rfl 38 (by decide) (hts _ (List.mem_cons_of_mem _ wlq_3_22)) (fun _ h9 => h9) rfl (dk_at dkX12_crosses_3 7 rfl) ?_
      refine lv_iload_n hx hb (dk_at dkX12_crosses_3 8 rfl) rfl (lv_at hl 2 rfl) ?_
      refine x_iald hx hb hK hP 27 1 wm27 rfl (by omega) (by decide) (dk_at dkX12_crosses_3 9 rfl) (fun z22 hz22 => ?_)
      have rz22 : (-2147483648 : Int) ≤ z22 ∧ z22 ≤ 2147483647 := by rw [hz22]; exact hI 27 _
      have gz22 := Hd.mk hz22
      have hz22 : z22 = A 27 (6 * (A 0 12) + x1).toNat := hz22
      have ez22 : z22 = z1 := hz22.trans hz1.symm
      refine lv_aload_n hx hb (dk_at dkX12_crosses_3 10 rfl) rfl (lv_at hl 3 rfl) ?_
      refine va_get (D := (dC, dI)) (ci := 12) (v := .ref (q 28)) (C := RX12) (T := TX12) (N := 85) hx hb hts hiX12 hown hK hP 0 wm0 rfl 39 (by decide) (hts _ (List.mem_cons_of_mem _ wlq_3_23)) (fun _ h9 => h9) rfl (dk_at dkX12_crosses_3 11 rfl) ?_
      refine lv_iload hx hb (dk_at dkX12_crosses_3 12 rfl) (lv_at hl 1 rfl) ?_
      refine x_iald hx hb hK hP 28 1 wm28 rfl (by omega) (by decide) (dk_at dkX12_crosses_3 13 rfl) (fun z23 hz23 => ?_)
      have rz23 : (-2147483648 : Int) ≤ z23 ∧ z23 ≤ 2147483647 := by rw [hz23]; exact hI 28 _
      have gz23 := Hd.mk hz23
      have hz23 : z23 = A 28 (6 * (A 0 12) + x2).toNat := hz23
      refine lv_icmp_ge (tgt := 128) hx hb (dk_at dkX12_crosses_3 14 rfl) (by decide) (fun c24 => ?_) (fun c24 => ?_)
      · have c24 : z23 ≤ z22 := (i_le rz23 rz22).mp c24
        exact J128_20 _ _ _ (fun zq hq => hk2 _ (u_d_X12_crosses_2 ⟨f15, ⟨z17, gz17.out, ⟨z18, gz18.out, (Or.inr ⟨c19, ⟨z22, gz22.out, ⟨z23, gz23.out, (Or.inl ⟨c24, hq⟩)⟩⟩⟩)⟩⟩⟩)) hP hS (lv_sub hl [0, 1, 2, 3, 4, 5] rfl)
      · have c24 : ¬ z23 ≤ z22 := mt (i_le rz23 rz22).mpr c24
        refine lv_aload_n hx hb (dk_at dkX12_crosses_3 15 rfl) rfl (lv_at hl 3 rfl) ?_
        refine va_get (D := (dC, dI)) (ci := 12) (v := .ref (q 28)) (C := RX12) (T := TX12) (N := 85) hx hb hts hiX12 hown hK hP 0 wm0 rfl 39 (by decide) (hts _ (List.mem_cons_of_mem _ wlq_3_23)) (fun _ h9 => h9) rfl (dk_at dkX12_crosses_4 0 rfl) ?_
        refine lv_iload hx hb (dk_at dkX12_crosses_4 1 rfl) (lv_at hl 1 rfl) ?_
        refine x_iald hx hb hK hP 28 1 wm28 rfl (by omega) (by decide) (dk_at dkX12_crosses_4 2 rfl) (fun z25 hz25 => ?_)
        have rz25 : (-2147483648 : Int) ≤ z25 ∧ z25 ≤ 2147483647 := by rw [hz25]; exact hI 28 _
        have gz25 := Hd.mk hz25
        have hz25 : z25 = A 28 (6 * (A 0 12) + x2).toNat := hz25
        have ez25 : z25 = z23 := hz25.trans hz23.symm
        refine lv_aload_n hx hb (dk_at dkX12_crosses_4 3 rfl) rfl (lv_at hl 3 rfl) ?_
        refine va_get (D := (dC, dI)) (ci := 12) (v := .ref (q 28)) (C := RX12) (T := TX12) (N := 85) hx hb hts hiX12 hown hK hP 0 wm0 rfl 39 (by decide) (hts _ (List.mem_cons_of_mem _ wlq_3_23)) (fun _ h9 => h9) rfl (dk_at dkX12_crosses_4 4 rfl) ?_
        refine lv_iload_n hx hb (dk_at dkX12_crosses_4 5 rfl) rfl (lv_at hl 2 rfl) ?_
        refine x_iald hx hb hK hP 28 1 wm28 rfl (by omega) (by decide) (dk_at dkX12_crosses_4 6 rfl) (fun z26 hz26 => ?_)
        have rz26 : (-2147483648 : Int) ≤ z26 ∧ z26 ≤ 2147483647 := by rw [hz26]; exact hI 28 _
        have gz26 := Hd.mk hz26
        have hz26 : z26 = A 28 (6 * (A 0 12) + x1).toNat := hz26
        refine lv_icmp_ge (tgt := 128) hx hb (dk_at dkX12_crosses_4 7 rfl) (by decide) (fun c27 => ?_) (fun c27 => ?_)
        · have c27 : z26 ≤ z25 := (i_le rz26 rz25).mp c27
          exact J128_20 _ _ _ (fun zq hq => hk2 _ (u_d_X12_crosses_2 ⟨f15, ⟨z17, gz17.out, ⟨z18, gz18.out, (Or.inr ⟨c19, ⟨z22, gz22.out, ⟨z23, gz23.out, (Or.inr ⟨c24, ⟨z25, gz25.out, ⟨z26, gz26.out, (Or.inl ⟨c27, hq⟩)⟩⟩⟩)⟩⟩⟩)⟩⟩⟩)) hP hS (lv_sub hl [0, 1, 2, 3, 4, 5] rfl)
        · have c27 : ¬ z26 ≤ z25 := mt (i_le rz26 rz25).mpr c27
          refine lv_iconst (v := iI 1) hx hb (dk_at dkX12_crosses_4 8 rfl) (by decide +kernel) ?_
          refine lv_goto (tgt := 129) hx hb (dk_at dkX12_crosses_4 9 rfl) (by decide) ?_
          exact J129_21 1 _ _ _ (by omega) (by omega) (fun zq hq => hk2 _ (u_d_X12_crosses_2 ⟨f15, ⟨z17, gz17.out, ⟨z18, gz18.out, (Or.inr ⟨c19, ⟨z22, gz22.out, ⟨z23, gz23.out, (Or.inr ⟨c24, ⟨z25, gz25.out, ⟨z26, gz26.out, (Or.inr ⟨c27, hq⟩)⟩⟩⟩)⟩⟩⟩)⟩⟩⟩)) hP hS (lv_sub hl [0, 1, 2, 3, 4, 5] rfl)
  have J73_4 : ∀ (H : Heap) (locs : List Loc) (ls : Array Slot), (∀ (z : Int), (d_X12_crosses_1 x1 x2 A z) → r_X12_crosses x1 x2 A z) → va_P (dC, dI) vwCl (WM cI cJ cZ q A) H → va_S AS s.heap H locs → lv_has ls 8 [(4, .int (iI (6 * (A 0 12) + x2))), (3, .int (iI (6 * (A 0 12) + x1))), (0, .ref (q 0)), (1, .int (iI x1)), (2, .int (iI x2))] → W p l e (headSpec ws_mc_X12_crosses ({ frames := 0, cells := 0, slots := 0, locals := 0 } : Room)).room s m [.ref (q 0), .int (iI x1), .int (iI x2)].toArray below meth c H locs 0 0 Q (F0 m 73 ls []) := by
    intro H locs ls hk1 hP hS hl
    refine lv_iconst (v := iI 0) hx hb (dk_at dkX12_crosses_2 11 rfl) (by decide +kernel) ?_
    exact J74_5 0 _ _ _ (by omega) (by omega) (fun zq hq => hk1 _ (u_d_X12_crosses_1 hq)) hP hS (lv_sub hl [0, 1, 2, 3, 4] rfl)
  refine lv_icmp_ge (tgt := 73) hx hb (dk_at dkX12_crosses_1 6 rfl) (by decide) (fun c3 => ?_) (fun c3 => ?_)
  · have c3 : z2 ≤ z1 := (i_le rz2 rz1).mp c3
    exact J73_4 _ _ _ (fun zq hq => (u_r_X12_crosses ⟨z1, gz1.out, ⟨z2, gz2.out, (Or.inl ⟨c3, hq⟩)⟩⟩)) hP hS (lv_sub hl [0, 1, 2, 3, 4] rfl)
  · have c3 : ¬ z2 ≤ z1 := mt (i_le rz2 rz1).mpr c3
    refine lv_aload_n hx hb (dk_at dkX12_crosses_1 7 rfl) rfl (lv_at hl 2 rfl) ?_
    refine va_get (D := (dC, dI)) (ci := 12) (v := .ref (q 27)) (C := RX12) (T := TX12) (N := 85) hx hb hts hiX12 hown hK hP 0 wm0 rfl 38 (by decide) (hts _ (List.mem_cons_of_mem _ wlq_3_22)) (fun _ h9 => h9) rfl (dk_at dkX12_crosses_1 8 rfl) ?_
    refine lv_iload hx hb (dk_at dkX12_crosses_1 9 rfl) (lv_at hl 0 rfl) ?_
    refine x_iald hx hb hK hP 27 1 wm27 rfl (by omega) (by decide) (dk_at dkX12_crosses_1 10 rfl) (fun z6 hz6 => ?_)
    have rz6 : (-2147483648 : Int) ≤ z6 ∧ z6 ≤ 2147483647 := by rw [hz6]; exact hI 27 _
    have gz6 := Hd.mk hz6
    have hz6 : z6 = A 27 (6 * (A 0 12) + x2).toNat := hz6
    have ez6 : z6 = z2 := hz6.trans hz2.symm
    refine lv_aload_n hx hb (dk_at dkX12_crosses_1 11 rfl) rfl (lv_at hl 2 rfl) ?_
    refine va_get (D := (dC, dI)) (ci := 12) (v := .ref (q 28)) (C := RX12) (T := TX12) (N := 85) hx hb hts hiX12 hown hK hP 0 wm0 rfl 39 (by decide) (hts _ (List.mem_cons_of_mem _ wlq_3_23)) (fun _ h9 => h9) rfl (dk_at dkX12_crosses_1 12 rfl) ?_
    refine lv_iload_n hx hb (dk_at dkX12_crosses_1 13 rfl) rfl (lv_at hl 1 rfl) ?_
    refine x_iald hx hb hK hP 28 1 wm28 rfl (by omega) (by decide) (dk_at dkX12_crosses_1 14 rfl) (fun z7 hz7 => ?_)
    have rz7 : (-2147483648 : Int) ≤ z7 ∧ z7 ≤ 2147483647 := by rw [hz7]; exact hI 28 _
    have gz7 := Hd.mk hz7
    have hz7 : z7 = A 28 (6 * (A 0 12) + x1).toNat := hz7
    refine lv_icmp_ge (tgt := 73) hx hb (dk_at dkX12_crosses_1 15 rfl) (by decide) (fun c8 => ?_) (fun c8 => ?_)
    · have c8 : z7 ≤ z6 := (i_le rz7 rz6).mp c8
      exact J73_4 _ _ _ (fun zq hq => (u_r_X12_crosses ⟨z1, gz1.out, ⟨z2, gz2.out, (Or.inr ⟨c3, ⟨z6, gz6.out, ⟨z7, gz7.out, (Or.inl ⟨c8, hq⟩)⟩⟩⟩)⟩⟩)) hP hS (lv_sub hl [0, 1, 2, 3, 4] rfl)
    · have c8 : ¬ z7 ≤ z6 := mt (i_le rz7 rz6).mpr c8
      refine lv_aload_n hx hb (dk_at dkX12_crosses_2 0 rfl) rfl (lv_at hl 2 rfl) ?_
      refine va_get (D := (dC, dI)) (ci := 12) (v := .ref (q 28)) (C := RX12) (T := TX12) (N := 85) hx hb hts hiX12 hown hK hP 0 wm0 rfl 39 (by decide) (hts _ (List.mem_cons_of_mem _ wlq_3_23)) (fun _ h9 => h9) rfl (dk_at dkX12_crosses_2 1 rfl) ?_
      refine lv_iload_n hx hb (dk_at dkX12_crosses_2 2 rfl) rfl (lv_at hl 1 rfl) ?_
      refine x_iald hx hb hK hP 28 1 wm28 rfl (by omega) (by decide) (dk_at dkX12_crosses_2 3 rfl) (fun z9 hz9 => ?_)
      have rz9 : (-2147483648 : Int) ≤ z9 ∧ z9 ≤ 2147483647 := by rw [hz9]; exact hI 28 _
      have gz9 := Hd.mk hz9
      have hz9 : z9 = A 28 (6 * (A 0 12) + x1).toNat := hz9
      have ez9 : z9 = z7 := hz9.trans hz7.symm
      refine lv_aload_n hx hb (dk_at dkX12_crosses_2 4 rfl) rfl (lv_at hl 2 rfl) ?_
      refine va_get (D := (dC, dI)) (ci := 12) (v := .ref (q 28)) (C := RX12) (T := TX12) (N := 85) hx hb hts hiX12 hown hK hP 0 wm0 rfl 39 (by decide) (hts _ (List.mem_cons_of_mem _ wlq_3_23)) (fun _ h9 => h9) rfl (dk_at dkX12_crosses_2 5 rfl) ?_
      refine lv_iload hx hb (dk_at dkX12_crosses_2 6 rfl) (lv_at hl 0 rfl) ?_
      refine x_iald hx hb hK hP 28 1 wm28 rfl (by omega) (by decide) (dk_at dkX12_crosses_2 7 rfl) (fun z10 hz10 => ?_)
      have rz10 : (-2147483648 : Int) ≤ z10 ∧ z10 ≤ 2147483647 := by rw [hz10]; exact hI 28 _
      have gz10 := Hd.mk hz10
      have hz10 : z10 = A 28 (6 * (A 0 12) + x2).toNat := hz10
      refine lv_icmp_ge (tgt := 73) hx hb (dk_at dkX12_crosses_2 8 rfl) (by decide) (fun c11 => ?_) (fun c11 => ?_)
      · have c11 : z10 ≤ z9 := (i_le rz10 rz9).mp c11
        exact J73_4 _ _ _ (fun zq hq => (u_r_X12_crosses ⟨z1, gz1.out, ⟨z2, gz2.out, (Or.inr ⟨c3, ⟨z6, gz6.out, ⟨z7, gz7.out, (Or.inr ⟨c8, ⟨z9, gz9.out, ⟨z10, gz10.out, (Or.inl ⟨c11, hq⟩)⟩⟩⟩)⟩⟩⟩)⟩⟩)) hP hS (lv_sub hl [0, 1, 2, 3, 4] rfl)
      · have c11 : ¬ z10 ≤ z9 := mt (i_le rz10 rz9).mpr c11
        refine lv_iconst (v := iI 1) hx hb (dk_at dkX12_crosses_2 9 rfl) (by decide +kernel) ?_
        refine lv_goto (tgt := 74) hx hb (dk_at dkX12_crosses_2 10 rfl) (by decide) ?_
        exact J74_5 1 _ _ _ (by omega) (by omega) (fun zq hq => (u_r_X12_crosses ⟨z1, gz1.out, ⟨z2, gz2.out, (Or.inr ⟨c3, ⟨z6, gz6.out, ⟨z7, gz7.out, (Or.inr ⟨c8, ⟨z9, gz9.out, ⟨z10, gz10.out, (Or.inr ⟨c11, hq⟩)⟩⟩⟩)⟩⟩⟩)⟩⟩)) hP hS (lv_sub hl [0, 1, 2, 3, 4] rfl)

abbrev tr_d_X12_cross_3 (K2 : Int → Prop) (x1 : Int) (z5 : Int) (A : St) (z : Int) (K3 : Int → Prop) (z15 : Int) : Prop := ((0 ≤ z15 ∧ z15 ≤ 2147483647) ∧ (∃ z23 : Int, z23 = A 25 ((A 0 12)).toNat ∧ (((z23 ≤ z15) ∧ (K2 (z5 + 1))) ∨ ((¬ z23 ≤ z15) ∧ (∃ z25 : Int, q_X12_crosses z5 z15 A z25 ∧ (((z25 = 0) ∧ (K3 (z15 + 1))) ∨ ((¬ z25 = 0) ∧ (((¬ x1 = 0) ∧ (z = z15)) ∨ ((x1 = 0) ∧ (z = z5))))))))))
def d_X12_cross_3 (K2 : Int → Prop) (x1 : Int) (z5 : Int) (A : St) (z : Int) : Nat → Int → Prop
  | 0, _ => False
  | nn9 + 1, z15 => tr_d_X12_cross_3 K2 x1 z5 A z (fun z15 => d_X12_cross_3 K2 x1 z5 A z nn9 z15) z15
theorem u_d_X12_cross_3 {K2 : Int → Prop} {x1 : Int} {z5 : Int} {A : St} {z : Int} {nn9 : Nat} {z15 : Int} (h : tr_d_X12_cross_3 K2 x1 z5 A z (fun z15 => d_X12_cross_3 K2 x1 z5 A z nn9 z15) z15) : d_X12_cross_3 K2 x1 z5 A z (nn9 + 1) z15 := h
abbrev tr_d_X12_cross_2 (x1 : Int) (A : St) (z : Int) (K2 : Int → Prop) (z5 : Int) : Prop := ((0 ≤ z5 ∧ z5 ≤ 2147483647) ∧ (∃ z13 : Int, z13 = A 25 ((A 0 12)).toNat ∧ (((z13 ≤ z5) ∧ (z = (-1))) ∨ ((¬ z13 ≤ z5) ∧ (∃ nn9 : Nat, d_X12_cross_3 K2 x1 z5 A z nn9 0)))))
def d_X12_cross_2 (x1 : Int) (A : St) (z : Int) : Nat → Int → Prop
  | 0, _ => False
  | nn9 + 1, z5 => tr_d_X12_cross_2 x1 A z (fun z5 => d_X12_cross_2 x1 A z nn9 z5) z5
theorem u_d_X12_cross_2 {x1 : Int} {A : St} {z : Int} {nn9 : Nat} {z5 : Int} (h : tr_d_X12_cross_2 x1 A z (fun z5 => d_X12_cross_2 x1 A z nn9 z5) z5) : d_X12_cross_2 x1 A z (nn9 + 1) z5 := h
abbrev tr_d_X12_cross_1 (x1 : Int) (A : St) (z : Int) : Prop := (∃ nn9 : Nat, d_X12_cross_2 x1 A z nn9 0)
def d_X12_cross_1 (x1 : Int) (A : St) (z : Int) : Prop := tr_d_X12_cross_1 x1 A z
theorem u_d_X12_cross_1 {x1 : Int} {A : St} {z : Int} (h : tr_d_X12_cross_1 x1 A z) : d_X12_cross_1 x1 A z := h
abbrev tr_r_X12_cross (x1 : Int) (A : St) (z : Int) : Prop := (((x1 = 0) ∧ (d_X12_cross_1 x1 A z)) ∨ ((¬ x1 = 0) ∧ (((x1 = 1) ∧ (d_X12_cross_1 x1 A z)) ∨ ((¬ x1 = 1) ∧ (z = (-1))))))
def r_X12_cross (x1 : Int) (A : St) (z : Int) : Prop := tr_r_X12_cross x1 A z
theorem u_r_X12_cross {x1 : Int} {A : St} {z : Int} (h : tr_r_X12_cross x1 A z) : r_X12_cross x1 A z := h
def ws_mc_X12_cross : List Cond := .code yX12_cross cX12_cross 4 (some .int) :: WX
set_option maxHeartbeats 4000000 in
set_option maxRecDepth 100000 in
theorem mc_X12_cross (l : Launch) (dC : Nat → ClassId) (dI : Nat → Nat → Nat) (cB cI cJ cZ cQ : ClassId) (q : Nat → Nat) (A : St) (x1 : Int) (hI : IM A) (hx1 : (-2147483648 : Int) ≤ x1 ∧ x1 ≤ 2147483647) : XMi l yX12_cross ws_mc_X12_cross ({ frames := 1, cells := 0, slots := 0, locals := 27 } : Room) (dC, dI) (tyA cB cI cJ cZ cQ) (WM cI cJ cZ q) A [.ref (q 0), .int (iI x1)] (fun z u => A = u ∧ r_X12_cross x1 A z ∧ (-2147483648 ≤ z ∧ z ≤ 2147483647)) := by
  refine x_meti (cc := cX12_cross) (maxL := 4) WM_adr (by decide +kernel) rfl (Nat.le_of_ble_eq_true rfl) (fun p e s m below meth c Q AS ls hx hb hml hown hts hK hDD hA0 hP hS hl RET => ?_)
  have hown : s.vm.findClass RX12 = some m.cls := hown
  have hl : lv_has ls 4 [(0, .ref (q 0)), (1, .int (iI x1))] := hl
  have hiX12 : ∀ w ∈ u_ws RX12 TX12 85, w ∈ ws_mc_X12_cross := fun w h => List.mem_cons_of_mem _ (wx_lay w h)
  obtain ⟨H, hHe⟩ : ∃ H : Heap, H = s.heap := ⟨_, rfl⟩
  rw [← hHe] at hP
  have hS : va_S AS s.heap H [] := by rw [hHe]; exact hS
  suffices hgo : ∀ locs : List Loc, va_S AS s.heap H locs → W p l e (headSpec ws_mc_X12_cross ({ frames := 1, cells := 0, slots := 0, locals := 27 } : Room)).room s m [.ref (q 0), .int (iI x1)].toArray below meth c H locs 0 0 Q (F0 m 0 ls []) by
    have := hgo [] hS
    rw [hHe] at this
    exact this
  clear hS hHe
  intro locs hS
  refine lv_iload_n hx hb (dk_at dkX12_cross_0 0 rfl) rfl (lv_at hl 1 rfl) ?_
  have J11_2 : ∀ (H : Heap) (locs : List Loc) (ls : Array Slot), (∀ (z : Int), (d_X12_cross_1 x1 A z) → r_X12_cross x1 A z) → va_P (dC, dI) vwCl (WM cI cJ cZ q A) H → va_S AS s.heap H locs → lv_has ls 4 [(0, .ref (q 0)), (1, .int (iI x1))] → W p l e (headSpec ws_mc_X12_cross ({ frames := 1, cells := 0, slots := 0, locals := 27 } : Room)).room s m [.ref (q 0), .int (iI x1)].toArray below meth c H locs 0 0 Q (F0 m 11 ls []) := by
    intro H locs ls hk1 hP hS hl
    refine lv_iconst (v := iI 0) hx hb (dk_at dkX12_cross_0 7 rfl) (by decide +kernel) ?_
    refine lv_istore_n (lv' := [(2, .int (iI 0)), (0, .ref (q 0)), (1, .int (iI x1))]) hx hb (dk_at dkX12_cross_0 8 rfl) rfl hl (by decide) rfl (fun ls hl => ?_)
    have L13_8 : ∀ (n10 : Nat) (z5 : Int) (H : Heap) (locs : List Loc) (ls : Array Slot), (0 ≤ z5) → (0 ≤ z5 ∧ z5 ≤ 2147483647) → (∀ (z : Int), (∃ mm2 : Nat, (d_X12_cross_2 x1 A z mm2 z5)) → r_X12_cross x1 A z) → ((A 25 ((A 0 12)).toNat - z5 + 1).toNat = n10) → va_P (dC, dI) vwCl (WM cI cJ cZ q A) H → va_S AS s.heap H locs → lv_has ls 4 [(2, .int (iI z5)), (0, .ref (q 0)), (1, .int (iI x1))] → W p l e (headSpec ws_mc_X12_cross ({ frames := 1, cells := 0, slots := 0, locals := 27 } : Room)).room s m [.ref (q 0), .int (iI x1)].toArray below meth c H locs 0 0 Q (F0 m 13 ls []) := by
      intro n10
      induction n10 using Nat.strongRecOn with
      | ind n10 ih9 =>
        intro z5 H locs ls f11 f12 hk2 hn10 hP hS hl
        refine lv_iload_n hx hb (dk_at dkX12_cross_0 9 rfl) rfl (lv_at hl 0 rfl) ?_
        refine lv_aload_n hx hb (dk_at dkX12_cross_0 10 rfl) rfl (lv_at hl 1 rfl) ?_
        refine va_get (D := (dC, dI)) (ci := 12) (v := .ref (q 25)) (C := RX12) (T := TX12) (N := 85) hx hb hts hiX12 hown hK hP 0 wm0 rfl 36 (by decide) (hts _ (List.mem_cons_of_mem _ wlq_3_20)) (fun _ h9 => h9) rfl (dk_at dkX12_cross_0 11 rfl) ?_
        refine lv_aload_n hx hb (dk_at dkX12_cross_0 12 rfl) rfl (lv_at hl 1 rfl) ?_
        refine va_get (D := (dC, dI)) (ci := 12) (v := .int (iI (A 0 12))) (C := RX12) (T := TX12) (N := 85) hx hb hts hiX12 hown hK hP 0 wm0 rfl 12 (by decide) (hts _ (List.mem_cons_of_mem _ wlq_4_14)) (fun _ h9 => h9) rfl (dk_at dkX12_cross_0 13 rfl) ?_
        have r_A_0_12 : (0 : Int) ≤ (A 0 12) ∧ (A 0 12) ≤ 1 := hI 0 12
        refine x_iald hx hb hK hP 25 1 wm25 rfl (by omega) (by decide) (dk_at dkX12_cross_0 14 rfl) (fun z13 hz13 => ?_)
        have rz13 : (0 : Int) ≤ z13 ∧ z13 ≤ 6 := by rw [hz13]; exact hI 25 _
        have gz13 := Hd.mk hz13
        have hz13 : z13 = A 25 ((A 0 12)).toNat := hz13
        refine lv_icmp_ge (tgt := 72) hx hb (dk_at dkX12_cross_0 15 rfl) (by decide) (fun c14 => ?_) (fun c14 => ?_)
        · have c14 : z13 ≤ z5 := (i_le (rb rz13 (by decide) (by decide)) (rb f12 (by decide) (by decide))).mp c14
          refine lv_iconst (v := iI (-1)) hx hb (dk_at dkX12_cross_2 8 rfl) (by decide +kernel) ?_
          exact RET (-1) _ _ _ _ _ ⟨rfl, hk2 _ ⟨0 + 1, (u_d_X12_cross_2 ⟨f12, ⟨z13, gz13.out, (Or.inl ⟨c14, rfl⟩)⟩⟩)⟩, by omega⟩ hP hS (dk_at dkX12_cross_2 9 rfl)
        · have c14 : ¬ z13 ≤ z5 := mt (i_le (rb rz13 (by decide) (by decide)) (rb f12 (by decide) (by decide))).mpr c14
          refine lv_iconst (v := iI 0) hx hb (dk_at dkX12_cross_1 0 rfl) (by decide +kernel) ?_
          refine lv_istore_n (lv' := [(3, .int (iI 0)), (2, .int (iI z5)), (0, .ref (q 0)), (1, .int (iI x1))]) hx hb (dk_at dkX12_cross_1 1 rfl) rfl hl (by decide) rfl (fun ls hl => ?_)
          have L28_18 : ∀ (n20 : Nat) (z15 : Int) (H : Heap) (locs : List Loc) (ls : Array Slot), (0 ≤ z15) → (0 ≤ z15 ∧ z15 ≤ 2147483647) → (∀ (z : Int), (∃ mm2 mm3 : Nat, (d_X12_cross_3 (fun z5' => d_X12_cross_2 x1 A z mm2 z5') x1 z5 A z mm3 z15)) → r_X12_cross x1 A z) → ((A 25 ((A 0 12)).toNat - z15 + 1).toNat = n20) → va_P (dC, dI) vwCl (WM cI cJ cZ q A) H → va_S AS s.heap H locs → lv_has ls 4 [(3, .int (iI z15)), (2, .int (iI z5)), (0, .ref (q 0)), (1, .int (iI x1))] → W p l e (headSpec ws_mc_X12_cross ({ frames := 1, cells := 0, slots := 0, locals := 27 } : Room)).room s m [.ref (q 0), .int (iI x1)].toArray below meth c H locs 0 0 Q (F0 m 28 ls []) := by
            intro n20
            induction n20 using Nat.strongRecOn with
            | ind n20 ih19 =>
              intro z15 H locs ls f21 f22 hk3 hn20 hP hS hl
              refine lv_iload_n hx hb (dk_at dkX12_cross_1 2 rfl) rfl (lv_at hl 0 rfl) ?_
              refine lv_aload_n hx hb (dk_at dkX12_cross_1 3 rfl) rfl (lv_at hl 2 rfl) ?_
              refine va_get (D := (dC, dI)) (ci := 12) (v := .ref (q 25)) (C := RX12) (T := TX12) (N := 85) hx hb hts hiX12 hown hK hP 0 wm0 rfl 36 (by decide) (hts _ (List.mem_cons_of_mem _ wlq_3_20)) (fun _ h9 => h9) rfl (dk_at dkX12_cross_1 4 rfl) ?_
              refine lv_aload_n hx hb (dk_at dkX12_cross_1 5 rfl) rfl (lv_at hl 2 rfl) ?_
              refine va_get (D := (dC, dI)) (ci := 12) (v := .int (iI (A 0 12))) (C := RX12) (T := TX12) (N := 85) hx hb hts hiX12 hown hK hP 0 wm0 rfl 12 (by decide) (hts _ (List.mem_cons_of_mem _ wlq_4_14)) (fun _ h9 => h9) rfl (dk_at dkX12_cross_1 6 rfl) ?_
              refine x_iald hx hb hK hP 25 1 wm25 rfl (by omega) (by decide) (dk_at dkX12_cross_1 7 rfl) (fun z23 hz23 => ?_)
              have rz23 : (0 : Int) ≤ z23 ∧ z23 ≤ 6 := by rw [hz23]; exact hI 25 _
              have gz23 := Hd.mk hz23
              have hz23 : z23 = A 25 ((A 0 12)).toNat := hz23
              have ez23 : z23 = z13 := hz23.trans hz13.symm
              refine lv_icmp_ge (tgt := 66) hx hb (dk_at dkX12_cross_1 8 rfl) (by decide) (fun c24 => ?_) (fun c24 => ?_)
              · have c24 : z23 ≤ z15 := (i_le (rb rz23 (by decide) (by decide)) (rb f22 (by decide) (by decide))).mp c24
                refine lv_iinc (v := iI (z5 + 1)) (lv' := [(2, .int (iI (z5 + 1))), (3, .int (iI z15)), (0, .ref (q 0)), (1, .int (iI x1))]) hx hb (dk_at dkX12_cross_2 6 rfl) hl (k := 1) rfl (i_inc (by omega)) (by decide) rfl (fun ls hl => ?_)
                refine lv_goto (tgt := 13) hx hb (dk_at dkX12_cross_2 7 rfl) (by decide) ?_
                exact ih9 _ (by omega) (z5 + 1) _ _ _ (by omega) (by omega) (fun zq ⟨mm2, hq⟩ => hk3 _ ⟨mm2, 0 + 1, (u_d_X12_cross_3 ⟨f22, ⟨z23, gz23.out, (Or.inl ⟨c24, hq⟩)⟩⟩)⟩) rfl hP hS (lv_sub hl [0, 2, 3] rfl)
              · have c24 : ¬ z23 ≤ z15 := mt (i_le (rb rz23 (by decide) (by decide)) (rb f22 (by decide) (by decide))).mpr c24
                refine lv_aload_n hx hb (dk_at dkX12_cross_1 9 rfl) rfl (lv_at hl 2 rfl) ?_
                refine lv_iload_n hx hb (dk_at dkX12_cross_1 10 rfl) rfl (lv_at hl 1 rfl) ?_
                refine lv_iload_n hx hb (dk_at dkX12_cross_1 11 rfl) rfl (lv_at hl 0 rfl) ?_
                refine x_calli (As := [.int (iI z5), .int (iI z15)]) (rest := []) ⟨hx, hb, hml, hown, hts⟩ (mc_X12_crosses l dC dI cB cI cJ cZ cQ q _ z5 z15 hI (by omega) (by omega)) (cwV 2 hts (goodV wlq_7_49 wlq_7_50 wlq_7_51 wlq_0_8 wlq_7_47) rfl rfl rfl (by decide +kernel) ⟨Nat.le_of_ble_eq_true rfl, Nat.le_of_ble_eq_true rfl⟩) hK hDD hA0 hP hS 0 12 wm0 rfl rfl hl.1 (Nat.le_of_ble_eq_true rfl) (dk_at dkX12_cross_1 12 rfl) (fun z25 A26 H locs hw27 hP hS => ?_)
                obtain ⟨rfl, hw27⟩ := hw27
                have ghw27 : q_X12_crosses z5 z15 A z25 := hw27
                have hw27 := hw27.2
                refine lv_if_eq (tgt := 60) hx hb (dk_at dkX12_cross_1 13 rfl) (by decide) (fun c28 => ?_) (fun c28 => ?_)
                · have c28 : z25 = 0 := (i_eq0 (rb hw27 (by decide) (by decide))).mp c28
                  refine lv_iinc (v := iI (z15 + 1)) (lv' := [(3, .int (iI (z15 + 1))), (2, .int (iI z5)), (0, .ref (q 0)), (1, .int (iI x1))]) hx hb (dk_at dkX12_cross_2 4 rfl) hl (k := 0) rfl (i_inc (by omega)) (by decide) rfl (fun ls hl => ?_)
                  refine lv_goto (tgt := 28) hx hb (dk_at dkX12_cross_2 5 rfl) (by decide) ?_
                  exact ih19 _ (by omega) (z15 + 1) _ _ _ (by omega) (by omega) (fun zq ⟨mm2, mm3, hq⟩ => hk3 _ ⟨mm2, mm3 + 1, (u_d_X12_cross_3 ⟨f22, ⟨z23, gz23.out, (Or.inr ⟨c24, ⟨z25, ghw27, (Or.inl ⟨c28, hq⟩)⟩⟩)⟩⟩)⟩) rfl hP hS (lv_sub hl [0, 1, 2, 3] rfl)
                · have c28 : ¬ z25 = 0 := mt (i_eq0 (rb hw27 (by decide) (by decide))).mpr c28
                  refine lv_iload_n hx hb (dk_at dkX12_cross_1 14 rfl) rfl (lv_at hl 3 rfl) ?_
                  refine lv_if_ne (tgt := 58) hx hb (dk_at dkX12_cross_1 15 rfl) (by decide) (fun c29 => ?_) (fun c29 => ?_)
                  · have c29 : ¬ x1 = 0 := mt (i_eq0 hx1).mpr c29
                    refine lv_iload_n hx hb (dk_at dkX12_cross_2 2 rfl) rfl (lv_at hl 0 rfl) ?_
                    exact RET z15 _ _ _ _ _ ⟨rfl, hk3 _ ⟨0, 0 + 1, (u_d_X12_cross_3 ⟨f22, ⟨z23, gz23.out, (Or.inr ⟨c24, ⟨z25, ghw27, (Or.inr ⟨c28, (Or.inl ⟨c29, rfl⟩)⟩)⟩⟩)⟩⟩)⟩, by omega⟩ hP hS (dk_at dkX12_cross_2 3 rfl)
                  · have c29 : x1 = 0 := (i_eq0 hx1).mp c29
                    refine lv_iload_n hx hb (dk_at dkX12_cross_2 0 rfl) rfl (lv_at hl 1 rfl) ?_
                    refine lv_goto (tgt := 59) hx hb (dk_at dkX12_cross_2 1 rfl) (by decide) ?_
                    exact RET z5 _ _ _ _ _ ⟨rfl, hk3 _ ⟨0, 0 + 1, (u_d_X12_cross_3 ⟨f22, ⟨z23, gz23.out, (Or.inr ⟨c24, ⟨z25, ghw27, (Or.inr ⟨c28, (Or.inr ⟨c29, rfl⟩)⟩)⟩⟩)⟩⟩)⟩, by omega⟩ hP hS (dk_at dkX12_cross_2 3 rfl)
          exact L28_18 _ 0 _ _ _ (by omega) (by omega) (fun zq ⟨mm2, mm3, hq⟩ => hk2 _ ⟨mm2 + 1, (u_d_X12_cross_2 ⟨f12, ⟨z13, gz13.out, (Or.inr ⟨c14, ⟨mm3, hq⟩⟩)⟩⟩)⟩) rfl hP hS (lv_sub hl [0, 1, 2, 3] rfl)
    exact L13_8 _ 0 _ _ _ (by omega) (by omega) (fun zq ⟨mm2, hq⟩ => hk1 _ (u_d_X12_cross_1 ⟨mm2, hq⟩)) rfl hP hS (lv_sub hl [0, 1, 2] rfl)
  refine lv_if_eq (tgt := 11) hx hb (dk_at dkX12_cross_0 1 rfl) (by decide) (fun c1 => ?_) (fun c1 => ?_)
  · have c1 : x1 = 0 := (i_eq0 hx1).mp c1
    exact J11_2 _ _ _ (fun zq hq => (u_r_X12_cross (Or.inl ⟨c1, hq⟩))) hP hS (lv_sub hl [0, 1] rfl)
  · have c1 : ¬ x1 = 0 := mt (i_eq0 hx1).mpr c1
    refine lv_iload_n hx hb (dk_at dkX12_cross_0 2 rfl) rfl (lv_at hl 1 rfl) ?_
    refine lv_iconst (v := iI 1) hx hb (dk_at dkX12_cross_0 3 rfl) (by decide +kernel) ?_
    refine lv_icmp_eq (tgt := 11) hx hb (dk_at dkX12_cross_0 4 rfl) (by decide) (fun c3 => ?_) (fun c3 => ?_)
    · have c3 : x1 = 1 := (i_eq hx1 ⟨by decide, by decide⟩).mp c3
      exact J11_2 _ _ _ (fun zq hq => (u_r_X12_cross (Or.inr ⟨c1, (Or.inl ⟨c3, hq⟩)⟩))) hP hS (lv_sub hl [0, 1] rfl)
    · have c3 : ¬ x1 = 1 := mt (i_eq hx1 ⟨by decide, by decide⟩).mpr c3
      refine lv_iconst (v := iI (-1)) hx hb (dk_at dkX12_cross_0 5 rfl) (by decide +kernel) ?_
      exact RET (-1) _ _ _ _ _ ⟨rfl, (u_r_X12_cross (Or.inr ⟨c1, (Or.inr ⟨c3, rfl⟩)⟩)), by omega⟩ hP hS (dk_at dkX12_cross_0 6 rfl)

abbrev tr_r_X12_isAhead (x1 : Int) (x2 : Int) (A : St) (z : Int) : Prop := (∃ z1 : Int, z1 = A 27 (6 * (A 0 12) + x1).toNat ∧ (∃ z2 : Int, z2 = A 27 (6 * (A 0 12) + x2).toNat ∧ (((z1 = z2) ∧ (∃ z4 : Int, z4 = A 28 (6 * (A 0 12) + x1).toNat ∧ (∃ z5 : Int, z5 = A 28 (6 * (A 0 12) + x2).toNat ∧ (((z4 = z5) ∧ (((x2 ≤ x1) ∧ (z = 0)) ∨ ((¬ x2 ≤ x1) ∧ (z = 1)))) ∨ ((¬ z4 = z5) ∧ (∃ z8 : Int, z8 = A 28 (6 * (A 0 12) + x1).toNat ∧ (∃ z9 : Int, z9 = A 28 (6 * (A 0 12) + x2).toNat ∧ (((z8 ≤ z9) ∧ (z = 0)) ∨ ((¬ z8 ≤ z9) ∧ (z = 1)))))))))) ∨ ((¬ z1 = z2) ∧ (∃ z11 : Int, z11 = A 27 (6 * (A 0 12) + x1).toNat ∧ (∃ z12 : Int, z12 = A 27 (6 * (A 0 12) + x2).toNat ∧ (((z12 ≤ z11) ∧ (z = 0)) ∨ ((¬ z12 ≤ z11) ∧ (z = 1)))))))))
def r_X12_isAhead (x1 : Int) (x2 : Int) (A : St) (z : Int) : Prop := tr_r_X12_isAhead x1 x2 A z
theorem u_r_X12_isAhead {x1 : Int} {x2 : Int} {A : St} {z : Int} (h : tr_r_X12_isAhead x1 x2 A z) : r_X12_isAhead x1 x2 A z := h
def q_X12_isAhead (x1 : Int) (x2 : Int) (A : St) (z : Int) : Prop := r_X12_isAhead x1 x2 A z ∧ (0 ≤ z ∧ z ≤ 1)
def ws_mc_X12_isAhead : List Cond := .code yX12_isAhead cX12_isAhead 5 (some .boolean) :: WX
set_option maxHeartbeats 4000000 in
set_option maxRecDepth 100000 in
theorem mc_X12_isAhead (l : Launch) (dC : Nat → ClassId) (dI : Nat → Nat → Nat) (cB cI cJ cZ cQ : ClassId) (q : Nat → Nat) (A : St) (x1 x2 : Int) (hI : IM A) (hx1 : (0 : Int) ≤ x1 ∧ x1 ≤ 7) (hx2 : (0 : Int) ≤ x2 ∧ x2 ≤ 7) : XMi l yX12_isAhead ws_mc_X12_isAhead ({ frames := 0, cells := 0, slots := 0, locals := 0 } : Room) (dC, dI) (tyA cB cI cJ cZ cQ) (WM cI cJ cZ q) A [.ref (q 0), .int (iI x1), .int (iI x2)] (fun z u => A = u ∧ r_X12_isAhead x1 x2 A z ∧ (0 ≤ z ∧ z ≤ 1)) := by
  refine x_metz (cc := cX12_isAhead) (maxL := 5) WM_adr (by decide +kernel) rfl (Nat.le_of_ble_eq_true rfl) (fun z u h => h.2.2) (fun p e s m below meth c Q AS ls hx hb hml hown hts hK hDD hA0 hP hS hl RET => ?_)
  have hown : s.vm.findClass RX12 = some m.cls := hown
  have hl : lv_has ls 5 [(0, .ref (q 0)), (1, .int (iI x1)), (2, .int (iI x2))] := hl
  have hiX12 : ∀ w ∈ u_ws RX12 TX12 85, w ∈ ws_mc_X12_isAhead := fun w h => List.mem_cons_of_mem _ (wx_lay w h)
  obtain ⟨H, hHe⟩ : ∃ H : Heap, H = s.heap := ⟨_, rfl⟩
  rw [← hHe] at hP
  have hS : va_S AS s.heap H [] := by rw [hHe]; exact hS
  suffices hgo : ∀ locs : List Loc, va_S AS s.heap H locs → W p l e (headSpec ws_mc_X12_isAhead ({ frames := 0, cells := 0, slots := 0, locals := 0 } : Room)).room s m [.ref (q 0), .int (iI x1), .int (iI x2)].toArray below meth c H locs 0 0 Q (F0 m 0 ls []) by
    have := hgo [] hS
    rw [hHe] at this
    exact this
  clear hS hHe
  intro locs hS
  refine lv_bipush (v := iI 6) hx hb (dk_at dkX12_isAhead_0 0 rfl) (by decide +kernel) ?_
  refine lv_aload_n hx hb (dk_at dkX12_isAhead_0 1 rfl) rfl (lv_at hl 0 rfl) ?_
  refine va_get (D := (dC, dI)) (ci := 12) (v := .int (iI (A 0 12))) (C := RX12) (T := TX12) (N := 85) hx hb hts hiX12 hown hK hP 0 wm0 rfl 12 (by decide) (hts _ (List.mem_cons_of_mem _ wlq_4_14)) (fun _ h9 => h9) rfl (dk_at dkX12_isAhead_0 2 rfl) ?_
  have r_A_0_12 : (0 : Int) ≤ (A 0 12) ∧ (A 0 12) ≤ 1 := hI 0 12
  refine x_mulv (v := 6 * (A 0 12)) hx hb (dk_at dkX12_isAhead_0 3 rfl) (by omega) ?_
  refine lv_iload_n hx hb (dk_at dkX12_isAhead_0 4 rfl) rfl (lv_at hl 1 rfl) ?_
  refine x_addv (v := 6 * (A 0 12) + x1) hx hb (dk_at dkX12_isAhead_0 5 rfl) (by omega) ?_
  refine lv_istore_n (lv' := [(3, .int (iI (6 * (A 0 12) + x1))), (0, .ref (q 0)), (1, .int (iI x1)), (2, .int (iI x2))]) hx hb (dk_at dkX12_isAhead_0 6 rfl) rfl hl (by decide) rfl (fun ls hl => ?_)
  refine lv_bipush (v := iI 6) hx hb (dk_at dkX12_isAhead_0 7 rfl) (by decide +kernel) ?_
  refine lv_aload_n hx hb (dk_at dkX12_isAhead_0 8 rfl) rfl (lv_at hl 1 rfl) ?_
  refine va_get (D := (dC, dI)) (ci := 12) (v := .int (iI (A 0 12))) (C := RX12) (T := TX12) (N := 85) hx hb hts hiX12 hown hK hP 0 wm0 rfl 12 (by decide) (hts _ (List.mem_cons_of_mem _ wlq_4_14)) (fun _ h9 => h9) rfl (dk_at dkX12_isAhead_0 9 rfl) ?_
  refine x_mulv (v := 6 * (A 0 12)) hx hb (dk_at dkX12_isAhead_0 10 rfl) (by omega) ?_
  refine lv_iload_n hx hb (dk_at dkX12_isAhead_0 11 rfl) rfl (lv_at hl 3 rfl) ?_
  refine x_addv (v := 6 * (A 0 12) + x2) hx hb (dk_at dkX12_isAhead_0 12 rfl) (by omega) ?_
  refine lv_istore (lv' := [(4, .int (iI (6 * (A 0 12) + x2))), (3, .int (iI (6 * (A 0 12) + x1))), (0, .ref (q 0)), (1, .int (iI x1)), (2, .int (iI x2))]) hx hb (dk_at dkX12_isAhead_0 13 rfl) hl (by decide) rfl (fun ls hl => ?_)
  refine lv_aload_n hx hb (dk_at dkX12_isAhead_0 14 rfl) rfl (lv_at hl 2 rfl) ?_
  refine va_get (D := (dC, dI)) (ci := 12) (v := .ref (q 27)) (C := RX12) (T := TX12) (N := 85) hx hb hts hiX12 hown hK hP 0 wm0 rfl 38 (by decide) (hts _ (List.mem_cons_of_mem _ wlq_3_22)) (fun _ h9 => h9) rfl (dk_at dkX12_isAhead_0 15 rfl) ?_
  refine lv_iload_n hx hb (dk_at dkX12_isAhead_1 0 rfl) rfl (lv_at hl 1 rfl) ?_
  refine x_iald hx hb hK hP 27 1 wm27 rfl (by omega) (by decide) (dk_at dkX12_isAhead_1 1 rfl) (fun z1 hz1 => ?_)
  have rz1 : (-2147483648 : Int) ≤ z1 ∧ z1 ≤ 2147483647 := by rw [hz1]; exact hI 27 _
  have gz1 := Hd.mk hz1
  have hz1 : z1 = A 27 (6 * (A 0 12) + x1).toNat := hz1
  refine lv_aload_n hx hb (dk_at dkX12_isAhead_1 2 rfl) rfl (lv_at hl 2 rfl) ?_
  refine va_get (D := (dC, dI)) (ci := 12) (v := .ref (q 27)) (C := RX12) (T := TX12) (N := 85) hx hb hts hiX12 hown hK hP 0 wm0 rfl 38 (by decide) (hts _ (List.mem_cons_of_mem _ wlq_3_22)) (fun _ h9 => h9) rfl (dk_at dkX12_isAhead_1 3 rfl) ?_
  refine lv_iload hx hb (dk_at dkX12_isAhead_1 4 rfl) (lv_at hl 0 rfl) ?_
  refine x_iald hx hb hK hP 27 1 wm27 rfl (by omega) (by decide) (dk_at dkX12_isAhead_1 5 rfl) (fun z2 hz2 => ?_)
  have rz2 : (-2147483648 : Int) ≤ z2 ∧ z2 ≤ 2147483647 := by rw [hz2]; exact hI 27 _
  have gz2 := Hd.mk hz2
  have hz2 : z2 = A 27 (6 * (A 0 12) + x2).toNat := hz2
  refine lv_icmp_eq (tgt := 59) hx hb (dk_at dkX12_isAhead_1 6 rfl) (by decide) (fun c3 => ?_) (fun c3 => ?_)
  · have c3 : z1 = z2 := (i_eq rz1 rz2).mp c3
    refine lv_aload_n hx hb (dk_at dkX12_isAhead_2 4 rfl) rfl (lv_at hl 2 rfl) ?_
    refine va_get (D := (dC, dI)) (ci := 12) (v := .ref (q 28)) (C := RX12) (T := TX12) (N := 85) hx hb hts hiX12 hown hK hP 0 wm0 rfl 39 (by decide) (hts _ (List.mem_cons_of_mem _ wlq_3_23)) (fun _ h9 => h9) rfl (dk_at dkX12_isAhead_2 5 rfl) ?_
    refine lv_iload_n hx hb (dk_at dkX12_isAhead_2 6 rfl) rfl (lv_at hl 1 rfl) ?_
    refine x_iald hx hb hK hP 28 1 wm28 rfl (by omega) (by decide) (dk_at dkX12_isAhead_2 7 rfl) (fun z4 hz4 => ?_)
    have rz4 : (-2147483648 : Int) ≤ z4 ∧ z4 ≤ 2147483647 := by rw [hz4]; exact hI 28 _
    have gz4 := Hd.mk hz4
    have hz4 : z4 = A 28 (6 * (A 0 12) + x1).toNat := hz4
    refine lv_aload_n hx hb (dk_at dkX12_isAhead_2 8 rfl) rfl (lv_at hl 2 rfl) ?_
    refine va_get (D := (dC, dI)) (ci := 12) (v := .ref (q 28)) (C := RX12) (T := TX12) (N := 85) hx hb hts hiX12 hown hK hP 0 wm0 rfl 39 (by decide) (hts _ (List.mem_cons_of_mem _ wlq_3_23)) (fun _ h9 => h9) rfl (dk_at dkX12_isAhead_2 9 rfl) ?_
    refine lv_iload hx hb (dk_at dkX12_isAhead_2 10 rfl) (lv_at hl 0 rfl) ?_
    refine x_iald hx hb hK hP 28 1 wm28 rfl (by omega) (by decide) (dk_at dkX12_isAhead_2 11 rfl) (fun z5 hz5 => ?_)
    have rz5 : (-2147483648 : Int) ≤ z5 ∧ z5 ≤ 2147483647 := by rw [hz5]; exact hI 28 _
    have gz5 := Hd.mk hz5
    have hz5 : z5 = A 28 (6 * (A 0 12) + x2).toNat := hz5
    refine lv_icmp_eq (tgt := 99) hx hb (dk_at dkX12_isAhead_2 12 rfl) (by decide) (fun c6 => ?_) (fun c6 => ?_)
    · have c6 : z4 = z5 := (i_eq rz4 rz5).mp c6
      refine lv_iload_n hx hb (dk_at dkX12_isAhead_3 10 rfl) rfl (lv_at hl 3 rfl) ?_
      refine lv_iload_n hx hb (dk_at dkX12_isAhead_3 11 rfl) rfl (lv_at hl 4 rfl) ?_
      refine lv_icmp_ge (tgt := 108) hx hb (dk_at dkX12_isAhead_3 12 rfl) (by decide) (fun c7 => ?_) (fun c7 => ?_)
      · have c7 : x2 ≤ x1 := (i_le (rb hx2 (by decide) (by decide)) (rb hx1 (by decide) (by decide))).mp c7
        refine lv_iconst (v := iI 0) hx hb (dk_at dkX12_isAhead_3 15 rfl) (by decide +kernel) ?_
        exact RET 0 _ _ _ _ _ ⟨rfl, (u_r_X12_isAhead ⟨z1, gz1.out, ⟨z2, gz2.out, (Or.inl ⟨c3, ⟨z4, gz4.out, ⟨z5, gz5.out, (Or.inl ⟨c6, (Or.inl ⟨c7, rfl⟩)⟩)⟩⟩⟩)⟩⟩), by omega⟩ hP hS (dk_at dkX12_isAhead_4 0 rfl)
      · have c7 : ¬ x2 ≤ x1 := mt (i_le (rb hx2 (by decide) (by decide)) (rb hx1 (by decide) (by decide))).mpr c7
        refine lv_iconst (v := iI 1) hx hb (dk_at dkX12_isAhead_3 13 rfl) (by decide +kernel) ?_
        refine lv_goto (tgt := 109) hx hb (dk_at dkX12_isAhead_3 14 rfl) (by decide) ?_
        exact RET 1 _ _ _ _ _ ⟨rfl, (u_r_X12_isAhead ⟨z1, gz1.out, ⟨z2, gz2.out, (Or.inl ⟨c3, ⟨z4, gz4.out, ⟨z5, gz5.out, (Or.inl ⟨c6, (Or.inr ⟨c7, rfl⟩)⟩)⟩⟩⟩)⟩⟩), by omega⟩ hP hS (dk_at dkX12_isAhead_4 0 rfl)
    · have c6 : ¬ z4 = z5 := mt (i_eq rz4 rz5).mpr c6
      refine lv_aload_n hx hb (dk_at dkX12_isAhead_2 13 rfl) rfl (lv_at hl 2 rfl) ?_
      refine va_get (D := (dC, dI)) (ci := 12) (v := .ref (q 28)) (C := RX12) (T := TX12) (N := 85) hx hb hts hiX12 hown hK hP 0 wm0 rfl 39 (by decide) (hts _ (List.mem_cons_of_mem _ wlq_3_23)) (fun _ h9 => h9) rfl (dk_at dkX12_isAhead_2 14 rfl) ?_
      refine lv_iload_n hx hb (dk_at dkX12_isAhead_2 15 rfl) rfl (lv_at hl 1 rfl) ?_
      refine x_iald hx hb hK hP 28 1 wm28 rfl (by omega) (by decide) (dk_at dkX12_isAhead_3 0 rfl) (fun z8 hz8 => ?_)
      have rz8 : (-2147483648 : Int) ≤ z8 ∧ z8 ≤ 2147483647 := by rw [hz8]; exact hI 28 _
      have gz8 := Hd.mk hz8
      have hz8 : z8 = A 28 (6 * (A 0 12) + x1).toNat := hz8
      have ez8 : z8 = z4 := hz8.trans hz4.symm
      refine lv_aload_n hx hb (dk_at dkX12_isAhead_3 1 rfl) rfl (lv_at hl 2 rfl) ?_
      refine va_get (D := (dC, dI)) (ci := 12) (v := .ref (q 28)) (C := RX12) (T := TX12) (N := 85) hx hb hts hiX12 hown hK hP 0 wm0 rfl 39 (by decide) (hts _ (List.mem_cons_of_mem _ wlq_3_23)) (fun _ h9 => h9) rfl (dk_at dkX12_isAhead_3 2 rfl) ?_
      refine lv_iload hx hb (dk_at dkX12_isAhead_3 3 rfl) (lv_at hl 0 rfl) ?_
      refine x_iald hx hb hK hP 28 1 wm28 rfl (by omega) (by decide) (dk_at dkX12_isAhead_3 4 rfl) (fun z9 hz9 => ?_)
      have rz9 : (-2147483648 : Int) ≤ z9 ∧ z9 ≤ 2147483647 := by rw [hz9]; exact hI 28 _
      have gz9 := Hd.mk hz9
      have hz9 : z9 = A 28 (6 * (A 0 12) + x2).toNat := hz9
      have ez9 : z9 = z5 := hz9.trans hz5.symm
      refine lv_icmp_le (tgt := 95) hx hb (dk_at dkX12_isAhead_3 5 rfl) (by decide) (fun c10 => ?_) (fun c10 => ?_)
      · have c10 : z8 ≤ z9 := (i_le rz8 rz9).mp c10
        refine lv_iconst (v := iI 0) hx hb (dk_at dkX12_isAhead_3 8 rfl) (by decide +kernel) ?_
        refine lv_goto (tgt := 109) hx hb (dk_at dkX12_isAhead_3 9 rfl) (by decide) ?_
        exact RET 0 _ _ _ _ _ ⟨rfl, (u_r_X12_isAhead ⟨z1, gz1.out, ⟨z2, gz2.out, (Or.inl ⟨c3, ⟨z4, gz4.out, ⟨z5, gz5.out, (Or.inr ⟨c6, ⟨z8, gz8.out, ⟨z9, gz9.out, (Or.inl ⟨c10, rfl⟩)⟩⟩⟩)⟩⟩⟩)⟩⟩), by omega⟩ hP hS (dk_at dkX12_isAhead_4 0 rfl)
      · have c10 : ¬ z8 ≤ z9 := mt (i_le rz8 rz9).mpr c10
        refine lv_iconst (v := iI 1) hx hb (dk_at dkX12_isAhead_3 6 rfl) (by decide +kernel) ?_
        refine lv_goto (tgt := 109) hx hb (dk_at dkX12_isAhead_3 7 rfl) (by decide) ?_
        exact RET 1 _ _ _ _ _ ⟨rfl, (u_r_X12_isAhead ⟨z1, gz1.out, ⟨z2, gz2.out, (Or.inl ⟨c3, ⟨z4, gz4.out, ⟨z5, gz5.out, (Or.inr ⟨c6, ⟨z8, gz8.out, ⟨z9, gz9.out, (Or.inr ⟨c10, rfl⟩)⟩⟩⟩)⟩⟩⟩)⟩⟩), by omega⟩ hP hS (dk_at dkX12_isAhead_4 0 rfl)
  · have c3 : ¬ z1 = z2 := mt (i_eq rz1 rz2).mpr c3
    refine lv_aload_n hx hb (dk_at dkX12_isAhead_1 7 rfl) rfl (lv_at hl 2 rfl) ?_
    refine va_get (D := (dC, dI)) (ci := 12) (v := .ref (q 27)) (C := RX12) (T := TX12) (N := 85) hx hb hts hiX12 hown hK hP 0 wm0 rfl 38 (by decide) (hts _ (List.mem_cons_of_mem _ wlq_3_22)) (fun _ h9 => h9) rfl (dk_at dkX12_isAhead_1 8 rfl) ?_
    refine lv_iload_n hx hb (dk_at dkX12_isAhead_1 9 rfl) rfl (lv_at hl 1 rfl) ?_
    refine x_iald hx hb hK hP 27 1 wm27 rfl (by omega) (by decide) (dk_at dkX12_isAhead_1 10 rfl) (fun z11 hz11 => ?_)
    have rz11 : (-2147483648 : Int) ≤ z11 ∧ z11 ≤ 2147483647 := by rw [hz11]; exact hI 27 _
    have gz11 := Hd.mk hz11
    have hz11 : z11 = A 27 (6 * (A 0 12) + x1).toNat := hz11
    have ez11 : z11 = z1 := hz11.trans hz1.symm
    refine lv_aload_n hx hb (dk_at dkX12_isAhead_1 11 rfl) rfl (lv_at hl 2 rfl) ?_
    refine va_get (D := (dC, dI)) (ci := 12) (v := .ref (q 27)) (C := RX12) (T := TX12) (N := 85) hx hb hts hiX12 hown hK hP 0 wm0 rfl 38 (by decide) (hts _ (List.mem_cons_of_mem _ wlq_3_22)) (fun _ h9 => h9) rfl (dk_at dkX12_isAhead_1 12 rfl) ?_
    refine lv_iload hx hb (dk_at dkX12_isAhead_1 13 rfl) (lv_at hl 0 rfl) ?_
    refine x_iald hx hb hK hP 27 1 wm27 rfl (by omega) (by decide) (dk_at dkX12_isAhead_1 14 rfl) (fun z12 hz12 => ?_)
    have rz12 : (-2147483648 : Int) ≤ z12 ∧ z12 ≤ 2147483647 := by rw [hz12]; exact hI 27 _
    have gz12 := Hd.mk hz12
    have hz12 : z12 = A 27 (6 * (A 0 12) + x2).toNat := hz12
    have ez12 : z12 = z2 := hz12.trans hz2.symm
    refine lv_icmp_ge (tgt := 57) hx hb (dk_at dkX12_isAhead_1 15 rfl) (by decide) (fun c13 => ?_) (fun c13 => ?_)
    · have c13 : z12 ≤ z11 := (i_le rz12 rz11).mp c13
      refine lv_iconst (v := iI 0) hx hb (dk_at dkX12_isAhead_2 2 rfl) (by decide +kernel) ?_
      exact RET 0 _ _ _ _ _ ⟨rfl, (u_r_X12_isAhead ⟨z1, gz1.out, ⟨z2, gz2.out, (Or.inr ⟨c3, ⟨z11, gz11.out, ⟨z12, gz12.out, (Or.inl ⟨c13, rfl⟩)⟩⟩⟩)⟩⟩), by omega⟩ hP hS (dk_at dkX12_isAhead_2 3 rfl)
    · have c13 : ¬ z12 ≤ z11 := mt (i_le rz12 rz11).mpr c13
      refine lv_iconst (v := iI 1) hx hb (dk_at dkX12_isAhead_2 0 rfl) (by decide +kernel) ?_
      refine lv_goto (tgt := 58) hx hb (dk_at dkX12_isAhead_2 1 rfl) (by decide) ?_
      exact RET 1 _ _ _ _ _ ⟨rfl, (u_r_X12_isAhead ⟨z1, gz1.out, ⟨z2, gz2.out, (Or.inr ⟨c3, ⟨z11, gz11.out, ⟨z12, gz12.out, (Or.inr ⟨c13, rfl⟩)⟩⟩⟩)⟩⟩), by omega⟩ hP hS (dk_at dkX12_isAhead_2 3 rfl)

abbrev tr_d_X12_order_3 (K2 : Int → Int → Prop) (z11 : Int) (z12 : Int) (z : Int) (z29 : Int) : Prop := ((0 ≤ z29 ∧ z29 ≤ 1) ∧ (∃ z33 : Int, z33 = oWrap (z12 + z29) ∧ (K2 (z11 + 1) z33)))
def d_X12_order_3 (K2 : Int → Int → Prop) (z11 : Int) (z12 : Int) (z : Int) (z29 : Int) : Prop := tr_d_X12_order_3 K2 z11 z12 z z29
theorem u_d_X12_order_3 {K2 : Int → Int → Prop} {z11 : Int} {z12 : Int} {z : Int} {z29 : Int} (h : tr_d_X12_order_3 K2 z11 z12 z z29) : d_X12_order_3 K2 z11 z12 z z29 := h
abbrev tr_d_X12_order_2 (K1 : Int → Prop) (x1 : Int) (z1 : Int) (A : St) (z : Int) (K2 : Int → Int → Prop) (z11 : Int) (z12 : Int) : Prop := ((0 ≤ z11 ∧ z11 ≤ 2147483647) ∧ ((-2147483648 ≤ z12 ∧ z12 ≤ 2147483647) ∧ (∃ z21 : Int, z21 = A 25 ((A 0 12)).toNat ∧ (((z21 ≤ z11) ∧ (((¬ z12 = x1) ∧ (K1 (z1 + 1))) ∨ ((z12 = x1) ∧ (z = z1)))) ∨ ((¬ z21 ≤ z11) ∧ (∃ z24 : Int, q_X12_isAhead z11 z1 A z24 ∧ (((z24 = 0) ∧ (d_X12_order_3 K2 z11 z12 z 0)) ∨ ((¬ z24 = 0) ∧ (d_X12_order_3 K2 z11 z12 z 1)))))))))
def d_X12_order_2 (K1 : Int → Prop) (x1 : Int) (z1 : Int) (A : St) (z : Int) : Nat → Int → Int → Prop
  | 0, _, _ => False
  | nn9 + 1, z11, z12 => tr_d_X12_order_2 K1 x1 z1 A z (fun z11 z12 => d_X12_order_2 K1 x1 z1 A z nn9 z11 z12) z11 z12
theorem u_d_X12_order_2 {K1 : Int → Prop} {x1 : Int} {z1 : Int} {A : St} {z : Int} {nn9 : Nat} {z11 : Int} {z12 : Int} (h : tr_d_X12_order_2 K1 x1 z1 A z (fun z11 z12 => d_X12_order_2 K1 x1 z1 A z nn9 z11 z12) z11 z12) : d_X12_order_2 K1 x1 z1 A z (nn9 + 1) z11 z12 := h
abbrev tr_d_X12_order_1 (x1 : Int) (A : St) (z : Int) (K1 : Int → Prop) (z1 : Int) : Prop := ((0 ≤ z1 ∧ z1 ≤ 2147483647) ∧ (∃ z9 : Int, z9 = A 25 ((A 0 12)).toNat ∧ (((z9 ≤ z1) ∧ (z = (-1))) ∨ ((¬ z9 ≤ z1) ∧ (∃ nn9 : Nat, d_X12_order_2 K1 x1 z1 A z nn9 0 0)))))
def d_X12_order_1 (x1 : Int) (A : St) (z : Int) : Nat → Int → Prop
  | 0, _ => False
  | nn9 + 1, z1 => tr_d_X12_order_1 x1 A z (fun z1 => d_X12_order_1 x1 A z nn9 z1) z1
theorem u_d_X12_order_1 {x1 : Int} {A : St} {z : Int} {nn9 : Nat} {z1 : Int} (h : tr_d_X12_order_1 x1 A z (fun z1 => d_X12_order_1 x1 A z nn9 z1) z1) : d_X12_order_1 x1 A z (nn9 + 1) z1 := h
abbrev tr_r_X12_order (x1 : Int) (A : St) (z : Int) : Prop := (∃ nn9 : Nat, d_X12_order_1 x1 A z nn9 0)
def r_X12_order (x1 : Int) (A : St) (z : Int) : Prop := tr_r_X12_order x1 A z
theorem u_r_X12_order {x1 : Int} {A : St} {z : Int} (h : tr_r_X12_order x1 A z) : r_X12_order x1 A z := h
def ws_mc_X12_order : List Cond := .code yX12_order cX12_order 5 (some .int) :: WX
set_option maxHeartbeats 4000000 in
set_option maxRecDepth 100000 in
theorem mc_X12_order (l : Launch) (dC : Nat → ClassId) (dI : Nat → Nat → Nat) (cB cI cJ cZ cQ : ClassId) (q : Nat → Nat) (A : St) (x1 : Int) (hI : IM A) (hx1 : (-2147483648 : Int) ≤ x1 ∧ x1 ≤ 2147483647) : XMi l yX12_order ws_mc_X12_order ({ frames := 1, cells := 0, slots := 0, locals := 24 } : Room) (dC, dI) (tyA cB cI cJ cZ cQ) (WM cI cJ cZ q) A [.ref (q 0), .int (iI x1)] (fun z u => A = u ∧ r_X12_order x1 A z ∧ (-2147483648 ≤ z ∧ z ≤ 2147483647)) := by
  refine x_meti (cc := cX12_order) (maxL := 5) WM_adr (by decide +kernel) rfl (Nat.le_of_ble_eq_true rfl) (fun p e s m below meth c Q AS ls hx hb hml hown hts hK hDD hA0 hP hS hl RET => ?_)
  have hown : s.vm.findClass RX12 = some m.cls := hown
  have hl : lv_has ls 5 [(0, .ref (q 0)), (1, .int (iI x1))] := hl
  have hiX12 : ∀ w ∈ u_ws RX12 TX12 85, w ∈ ws_mc_X12_order := fun w h => List.mem_cons_of_mem _ (wx_lay w h)
  obtain ⟨H, hHe⟩ : ∃ H : Heap, H = s.heap := ⟨_, rfl⟩
  rw [← hHe] at hP
  have hS : va_S AS s.heap H [] := by rw [hHe]; exact hS
  suffices hgo : ∀ locs : List Loc, va_S AS s.heap H locs → W p l e (headSpec ws_mc_X12_order ({ frames := 1, cells := 0, slots := 0, locals := 24 } : Room)).room s m [.ref (q 0), .int (iI x1)].toArray below meth c H locs 0 0 Q (F0 m 0 ls []) by
    have := hgo [] hS
    rw [hHe] at this
    exact this
  clear hS hHe
  intro locs hS
  refine lv_iconst (v := iI 0) hx hb (dk_at dkX12_order_0 0 rfl) (by decide +kernel) ?_
  refine lv_istore_n (lv' := [(2, .int (iI 0)), (0, .ref (q 0)), (1, .int (iI x1))]) hx hb (dk_at dkX12_order_0 1 rfl) rfl hl (by decide) rfl (fun ls hl => ?_)
  have L2_4 : ∀ (n6 : Nat) (z1 : Int) (H : Heap) (locs : List Loc) (ls : Array Slot), (0 ≤ z1) → (0 ≤ z1 ∧ z1 ≤ 2147483647) → (∀ (z : Int), (∃ mm1 : Nat, (d_X12_order_1 x1 A z mm1 z1)) → r_X12_order x1 A z) → ((A 25 ((A 0 12)).toNat - z1 + 1).toNat = n6) → va_P (dC, dI) vwCl (WM cI cJ cZ q A) H → va_S AS s.heap H locs → lv_has ls 5 [(2, .int (iI z1)), (0, .ref (q 0)), (1, .int (iI x1))] → W p l e (headSpec ws_mc_X12_order ({ frames := 1, cells := 0, slots := 0, locals := 24 } : Room)).room s m [.ref (q 0), .int (iI x1)].toArray below meth c H locs 0 0 Q (F0 m 2 ls []) := by
    intro n6
    induction n6 using Nat.strongRecOn with
    | ind n6 ih5 =>
      intro z1 H locs ls f7 f8 hk1 hn6 hP hS hl
      refine lv_iload_n hx hb (dk_at dkX12_order_0 2 rfl) rfl (lv_at hl 0 rfl) ?_
      refine lv_aload_n hx hb (dk_at dkX12_order_0 3 rfl) rfl (lv_at hl 1 rfl) ?_
      refine va_get (D := (dC, dI)) (ci := 12) (v := .ref (q 25)) (C := RX12) (T := TX12) (N := 85) hx hb hts hiX12 hown hK hP 0 wm0 rfl 36 (by decide) (hts _ (List.mem_cons_of_mem _ wlq_3_20)) (fun _ h9 => h9) rfl (dk_at dkX12_order_0 4 rfl) ?_
      refine lv_aload_n hx hb (dk_at dkX12_order_0 5 rfl) rfl (lv_at hl 1 rfl) ?_
      refine va_get (D := (dC, dI)) (ci := 12) (v := .int (iI (A 0 12))) (C := RX12) (T := TX12) (N := 85) hx hb hts hiX12 hown hK hP 0 wm0 rfl 12 (by decide) (hts _ (List.mem_cons_of_mem _ wlq_4_14)) (fun _ h9 => h9) rfl (dk_at dkX12_order_0 6 rfl) ?_
      have r_A_0_12 : (0 : Int) ≤ (A 0 12) ∧ (A 0 12) ≤ 1 := hI 0 12
      refine x_iald hx hb hK hP 25 1 wm25 rfl (by omega) (by decide) (dk_at dkX12_order_0 7 rfl) (fun z9 hz9 => ?_)
      have rz9 : (0 : Int) ≤ z9 ∧ z9 ≤ 6 := by rw [hz9]; exact hI 25 _
      have gz9 := Hd.mk hz9
      have hz9 : z9 = A 25 ((A 0 12)).toNat := hz9
      refine lv_icmp_ge (tgt := 71) hx hb (dk_at dkX12_order_0 8 rfl) (by decide) (fun c10 => ?_) (fun c10 => ?_)
      · have c10 : z9 ≤ z1 := (i_le (rb rz9 (by decide) (by decide)) (rb f8 (by decide) (by decide))).mp c10
        refine lv_iconst (v := iI (-1)) hx hb (dk_at dkX12_order_2 8 rfl) (by decide +kernel) ?_
        exact RET (-1) _ _ _ _ _ ⟨rfl, hk1 _ ⟨0 + 1, (u_d_X12_order_1 ⟨f8, ⟨z9, gz9.out, (Or.inl ⟨c10, rfl⟩)⟩⟩)⟩, by omega⟩ hP hS (dk_at dkX12_order_2 9 rfl)
      · have c10 : ¬ z9 ≤ z1 := mt (i_le (rb rz9 (by decide) (by decide)) (rb f8 (by decide) (by decide))).mpr c10
        refine lv_iconst (v := iI 0) hx hb (dk_at dkX12_order_0 9 rfl) (by decide +kernel) ?_
        refine lv_istore_n (lv' := [(3, .int (iI 0)), (2, .int (iI z1)), (0, .ref (q 0)), (1, .int (iI x1))]) hx hb (dk_at dkX12_order_0 10 rfl) rfl hl (by decide) rfl (fun ls hl => ?_)
        refine lv_iconst (v := iI 0) hx hb (dk_at dkX12_order_0 11 rfl) (by decide +kernel) ?_
        refine lv_istore (lv' := [(4, .int (iI 0)), (3, .int (iI 0)), (2, .int (iI z1)), (0, .ref (q 0)), (1, .int (iI x1))]) hx hb (dk_at dkX12_order_0 12 rfl) hl (by decide) rfl (fun ls hl => ?_)
        have L20_15 : ∀ (n17 : Nat) (z11 z12 : Int) (H : Heap) (locs : List Loc) (ls : Array Slot), (0 ≤ z11) → (0 ≤ z11 ∧ z11 ≤ 2147483647) → (-2147483648 ≤ z12 ∧ z12 ≤ 2147483647) → (∀ (z : Int), (∃ mm1 mm2 : Nat, (d_X12_order_2 (fun z1' => d_X12_order_1 x1 A z mm1 z1') x1 z1 A z mm2 z11 z12)) → r_X12_order x1 A z) → ((A 25 ((A 0 12)).toNat - z11 + 1).toNat = n17) → va_P (dC, dI) vwCl (WM cI cJ cZ q A) H → va_S AS s.heap H locs → lv_has ls 5 [(4, .int (iI z11)), (3, .int (iI z12)), (2, .int (iI z1)), (0, .ref (q 0)), (1, .int (iI x1))] → W p l e (headSpec ws_mc_X12_order ({ frames := 1, cells := 0, slots := 0, locals := 24 } : Room)).room s m [.ref (q 0), .int (iI x1)].toArray below meth c H locs 0 0 Q (F0 m 20 ls []) := by
          intro n17
          induction n17 using Nat.strongRecOn with
          | ind n17 ih16 =>
            intro z11 z12 H locs ls f18 f19 f20 hk2 hn17 hP hS hl
            refine lv_iload hx hb (dk_at dkX12_order_0 13 rfl) (lv_at hl 0 rfl) ?_
            refine lv_aload_n hx hb (dk_at dkX12_order_0 14 rfl) rfl (lv_at hl 3 rfl) ?_
            refine va_get (D := (dC, dI)) (ci := 12) (v := .ref (q 25)) (C := RX12) (T := TX12) (N := 85) hx hb hts hiX12 hown hK hP 0 wm0 rfl 36 (by decide) (hts _ (List.mem_cons_of_mem _ wlq_3_20)) (fun _ h9 => h9) rfl (dk_at dkX12_order_0 15 rfl) ?_
            refine lv_aload_n hx hb (dk_at dkX12_order_1 0 rfl) rfl (lv_at hl 3 rfl) ?_
            refine va_get (D := (dC, dI)) (ci := 12) (v := .int (iI (A 0 12))) (C := RX12) (T := TX12) (N := 85) hx hb hts hiX12 hown hK hP 0 wm0 rfl 12 (by decide) (hts _ (List.mem_cons_of_mem _ wlq_4_14)) (fun _ h9 => h9) rfl (dk_at dkX12_order_1 1 rfl) ?_
            refine x_iald hx hb hK hP 25 1 wm25 rfl (by omega) (by decide) (dk_at dkX12_order_1 2 rfl) (fun z21 hz21 => ?_)
            have rz21 : (0 : Int) ≤ z21 ∧ z21 ≤ 6 := by rw [hz21]; exact hI 25 _
            have gz21 := Hd.mk hz21
            have hz21 : z21 = A 25 ((A 0 12)).toNat := hz21
            have ez21 : z21 = z9 := hz21.trans hz9.symm
            refine lv_icmp_ge (tgt := 58) hx hb (dk_at dkX12_order_1 3 rfl) (by decide) (fun c22 => ?_) (fun c22 => ?_)
            · have c22 : z21 ≤ z11 := (i_le (rb rz21 (by decide) (by decide)) (rb f19 (by decide) (by decide))).mp c22
              refine lv_iload_n hx hb (dk_at dkX12_order_2 1 rfl) rfl (lv_at hl 1 rfl) ?_
              refine lv_iload_n hx hb (dk_at dkX12_order_2 2 rfl) rfl (lv_at hl 4 rfl) ?_
              refine lv_icmp_ne (tgt := 65) hx hb (dk_at dkX12_order_2 3 rfl) (by decide) (fun c23 => ?_) (fun c23 => ?_)
              · have c23 : ¬ z12 = x1 := mt (i_eq f20 hx1).mpr c23
                refine lv_iinc (v := iI (z1 + 1)) (lv' := [(2, .int (iI (z1 + 1))), (4, .int (iI z11)), (3, .int (iI z12)), (0, .ref (q 0)), (1, .int (iI x1))]) hx hb (dk_at dkX12_order_2 6 rfl) hl (k := 2) rfl (i_inc (by omega)) (by decide) rfl (fun ls hl => ?_)
                refine lv_goto (tgt := 2) hx hb (dk_at dkX12_order_2 7 rfl) (by decide) ?_
                exact ih5 _ (by omega) (z1 + 1) _ _ _ (by omega) (by omega) (fun zq ⟨mm1, hq⟩ => hk2 _ ⟨mm1, 0 + 1, (u_d_X12_order_2 ⟨f19, ⟨f20, ⟨z21, gz21.out, (Or.inl ⟨c22, (Or.inl ⟨c23, hq⟩)⟩)⟩⟩⟩)⟩) rfl hP hS (lv_sub hl [0, 3, 4] rfl)
              · have c23 : z12 = x1 := (i_eq f20 hx1).mp c23
                refine lv_iload_n hx hb (dk_at dkX12_order_2 4 rfl) rfl (lv_at hl 2 rfl) ?_
                exact RET z1 _ _ _ _ _ ⟨rfl, hk2 _ ⟨0, 0 + 1, (u_d_X12_order_2 ⟨f19, ⟨f20, ⟨z21, gz21.out, (Or.inl ⟨c22, (Or.inr ⟨c23, rfl⟩)⟩)⟩⟩⟩)⟩, by omega⟩ hP hS (dk_at dkX12_order_2 5 rfl)
            · have c22 : ¬ z21 ≤ z11 := mt (i_le (rb rz21 (by decide) (by decide)) (rb f19 (by decide) (by decide))).mpr c22
              refine lv_iload_n hx hb (dk_at dkX12_order_1 4 rfl) rfl (lv_at hl 1 rfl) ?_
              refine lv_aload_n hx hb (dk_at dkX12_order_1 5 rfl) rfl (lv_at hl 3 rfl) ?_
              refine lv_iload hx hb (dk_at dkX12_order_1 6 rfl) (lv_at hl 0 rfl) ?_
              refine lv_iload_n hx hb (dk_at dkX12_order_1 7 rfl) rfl (lv_at hl 2 rfl) ?_
              refine x_calli (As := [.int (iI z11), .int (iI z1)]) (rest := [.int (iI z12)]) ⟨hx, hb, hml, hown, hts⟩ (mc_X12_isAhead l dC dI cB cI cJ cZ cQ q _ z11 z1 hI (by omega) (by omega)) (cwV 2 hts (goodV wlq_8_4 wlq_8_5 wlq_8_6 wlq_0_8 wlq_8_2) rfl rfl rfl (by decide +kernel) ⟨Nat.le_of_ble_eq_true rfl, Nat.le_of_ble_eq_true rfl⟩) hK hDD hA0 hP hS 0 12 wm0 rfl rfl hl.1 (Nat.le_of_ble_eq_true rfl) (dk_at dkX12_order_1 8 rfl) (fun z24 A25 H locs hw26 hP hS => ?_)
              obtain ⟨rfl, hw26⟩ := hw26
              have ghw26 : q_X12_isAhead z11 z1 A z24 := hw26
              have hw26 := hw26.2
              have J50_28 : ∀ (z29 : Int) (H : Heap) (locs : List Loc) (ls : Array Slot), (0 ≤ z29 ∧ z29 ≤ 1) → ((z29 = 0 ∧ z24 = 0) ∨ (z29 = 1 ∧ ¬ z24 = 0)) → (∀ (z : Int), (∃ mm1 mm2 : Nat, (d_X12_order_3 (fun z11' z12' => d_X12_order_2 (fun z1' => d_X12_order_1 x1 A z mm1 z1') x1 z1 A z mm2 z11' z12') z11 z12 z z29)) → r_X12_order x1 A z) → va_P (dC, dI) vwCl (WM cI cJ cZ q A) H → va_S AS s.heap H locs → lv_has ls 5 [(4, .int (iI z11)), (3, .int (iI z12)), (2, .int (iI z1)), (0, .ref (q 0)), (1, .int (iI x1))] → W p l e (headSpec ws_mc_X12_order ({ frames := 1, cells := 0, slots := 0, locals := 24 } : Room)).room s m [.ref (q 0), .int (iI x1)].toArray below meth c H locs 0 0 Q (F0 m 50 ls [.int (iI z29), .int (iI z12)]) := by
                intro z29 H locs ls f31 f32 hk3 hP hS hl
                refine x_addv (v := z12 + z29) hx hb (dk_at dkX12_order_1 13 rfl) (by omega) ?_
                refine x_absE (fun z33 gz33 hz33 => ?_)
                refine lv_istore_n (lv' := [(3, .int (iI z33)), (4, .int (iI z11)), (2, .int (iI z1)), (0, .ref (q 0)), (1, .int (iI x1))]) hx hb (dk_at dkX12_order_1 14 rfl) rfl hl (by decide) rfl (fun ls hl => ?_)
                refine lv_iinc (v := iI (z11 + 1)) (lv' := [(4, .int (iI (z11 + 1))), (3, .int (iI z33)), (2, .int (iI z1)), (0, .ref (q 0)), (1, .int (iI x1))]) hx hb (dk_at dkX12_order_1 15 rfl) hl (k := 1) rfl (i_inc (by omega)) (by decide) rfl (fun ls hl => ?_)
                refine lv_goto (tgt := 20) hx hb (dk_at dkX12_order_2 0 rfl) (by decide) ?_
                exact ih16 _ (by omega) (z11 + 1) z33 _ _ _ (by omega) (by omega) (by omega) (fun zq ⟨mm1, mm2, hq⟩ => hk3 _ ⟨mm1, mm2, (u_d_X12_order_3 ⟨f31, ⟨z33, gz33.out, hq⟩⟩)⟩) rfl hP hS (lv_sub hl [0, 1, 2, 3, 4] rfl)
              refine lv_if_eq (tgt := 49) hx hb (dk_at dkX12_order_1 9 rfl) (by decide) (fun c27 => ?_) (fun c27 => ?_)
              · have c27 : z24 = 0 := (i_eq0 (rb hw26 (by decide) (by decide))).mp c27
                refine lv_iconst (v := iI 0) hx hb (dk_at dkX12_order_1 12 rfl) (by decide +kernel) ?_
                exact J50_28 0 _ _ _ (by omega) (by omega) (fun zq ⟨mm1, mm2, hq⟩ => hk2 _ ⟨mm1, mm2 + 1, (u_d_X12_order_2 ⟨f19, ⟨f20, ⟨z21, gz21.out, (Or.inr ⟨c22, ⟨z24, ghw26, (Or.inl ⟨c27, hq⟩)⟩⟩)⟩⟩⟩)⟩) hP hS (lv_sub hl [0, 1, 2, 3, 4] rfl)
              · have c27 : ¬ z24 = 0 := mt (i_eq0 (rb hw26 (by decide) (by decide))).mpr c27
                refine lv_iconst (v := iI 1) hx hb (dk_at dkX12_order_1 10 rfl) (by decide +kernel) ?_
                refine lv_goto (tgt := 50) hx hb (dk_at dkX12_order_1 11 rfl) (by decide) ?_
                exact J50_28 1 _ _ _ (by omega) (by omega) (fun zq ⟨mm1, mm2, hq⟩ => hk2 _ ⟨mm1, mm2 + 1, (u_d_X12_order_2 ⟨f19, ⟨f20, ⟨z21, gz21.out, (Or.inr ⟨c22, ⟨z24, ghw26, (Or.inr ⟨c27, hq⟩)⟩⟩)⟩⟩⟩)⟩) hP hS (lv_sub hl [0, 1, 2, 3, 4] rfl)
        exact L20_15 _ 0 0 _ _ _ (by omega) (by omega) (by omega) (fun zq ⟨mm1, mm2, hq⟩ => hk1 _ ⟨mm1 + 1, (u_d_X12_order_1 ⟨f8, ⟨z9, gz9.out, (Or.inr ⟨c10, ⟨mm2, hq⟩⟩)⟩⟩)⟩) rfl hP hS (lv_sub hl [0, 1, 2, 3, 4] rfl)
  exact L2_4 _ 0 _ _ _ (by omega) (by omega) (fun zq ⟨mm1, hq⟩ => (u_r_X12_order ⟨mm1, hq⟩)) rfl hP hS (lv_sub hl [0, 1, 2] rfl)

abbrev tr_d_X12_needs_4 (K3 : Int → Int → Int → Prop) (z37 : Int) (z : Int) (z62 : Int) (z63 : Int) : Prop := ((-2147483648 ≤ z62 ∧ z62 ≤ 2147483647) ∧ ((-2147483648 ≤ z63 ∧ z63 ≤ 2147483647) ∧ (K3 (z37 + 1) z62 z63)))
def d_X12_needs_4 (K3 : Int → Int → Int → Prop) (z37 : Int) (z : Int) (z62 : Int) (z63 : Int) : Prop := tr_d_X12_needs_4 K3 z37 z z62 z63
theorem u_d_X12_needs_4 {K3 : Int → Int → Int → Prop} {z37 : Int} {z : Int} {z62 : Int} {z63 : Int} (h : tr_d_X12_needs_4 K3 z37 z z62 z63) : d_X12_needs_4 K3 z37 z z62 z63 := h
abbrev tr_d_X12_needs_3 (K2 : Int → Int → Int → Prop) (x1 : Int) (z15 : Int) (z36 : Int) (A : St) (z : Int) (K3 : Int → Int → Int → Prop) (z37 : Int) (z38 : Int) (z39 : Int) : Prop := ((0 ≤ z37 ∧ z37 ≤ 2147483647) ∧ ((-2147483648 ≤ z38 ∧ z38 ≤ 2147483647) ∧ ((-2147483648 ≤ z39 ∧ z39 ≤ 2147483647) ∧ (((z36 ≤ z37) ∧ (K2 (z15 + 1) z38 z39)) ∨ ((¬ z36 ≤ z37) ∧ (∃ z49 : Int, q_X12_key4 z15 A z49 ∧ (∃ z52 : Int, z52 = A 15 (40 * (A 0 12) + 10 * z15 + z37).toNat ∧ (((z52 = x1) ∧ (∃ z55 : Int, q_X12_key4 z15 A z55 ∧ (∃ z58 : Int, z58 = A 13 (4 * (A 0 12) + z15).toNat ∧ (∃ z59 : Int, z59 = oShl 1 z58 ∧ (∃ z60 : Int, z60 = oOr z39 z59 ∧ (∃ z61 : Int, z61 = oWrap (z38 + z36 - z37) ∧ (d_X12_needs_4 K3 z37 z z61 z60))))))) ∨ ((¬ z52 = x1) ∧ (d_X12_needs_4 K3 z37 z z38 z39))))))))))
def d_X12_needs_3 (K2 : Int → Int → Int → Prop) (x1 : Int) (z15 : Int) (z36 : Int) (A : St) (z : Int) : Nat → Int → Int → Int → Prop
  | 0, _, _, _ => False
  | nn9 + 1, z37, z38, z39 => tr_d_X12_needs_3 K2 x1 z15 z36 A z (fun z37 z38 z39 => d_X12_needs_3 K2 x1 z15 z36 A z nn9 z37 z38 z39) z37 z38 z39
theorem u_d_X12_needs_3 {K2 : Int → Int → Int → Prop} {x1 : Int} {z15 : Int} {z36 : Int} {A : St} {z : Int} {nn9 : Nat} {z37 : Int} {z38 : Int} {z39 : Int} (h : tr_d_X12_needs_3 K2 x1 z15 z36 A z (fun z37 z38 z39 => d_X12_needs_3 K2 x1 z15 z36 A z nn9 z37 z38 z39) z37 z38 z39) : d_X12_needs_3 K2 x1 z15 z36 A z (nn9 + 1) z37 z38 z39 := h
abbrev tr_d_X12_needs_2 (x1 : Int) (x2 : Int) (A : St) (z : Int) (K2 : Int → Int → Int → Prop) (z15 : Int) (z16 : Int) (z17 : Int) : Prop := ((0 ≤ z15 ∧ z15 ≤ 2147483647) ∧ ((-2147483648 ≤ z16 ∧ z16 ≤ 2147483647) ∧ ((-2147483648 ≤ z17 ∧ z17 ≤ 2147483647) ∧ (∃ z27 : Int, z27 = A 11 ((A 0 12)).toNat ∧ (((z27 ≤ z15) ∧ (((¬ x2 = 0) ∧ (z = z16)) ∨ ((x2 = 0) ∧ (∃ z30 : Int, q_X12_bitsOf z17 A z30 ∧ (z = z30))))) ∨ ((¬ z27 ≤ z15) ∧ (∃ z33 : Int, q_X12_key4 z15 A z33 ∧ (∃ z36 : Int, z36 = A 14 (4 * (A 0 12) + z15).toNat ∧ (∃ nn9 : Nat, d_X12_needs_3 K2 x1 z15 z36 A z nn9 0 z16 z17)))))))))
def d_X12_needs_2 (x1 : Int) (x2 : Int) (A : St) (z : Int) : Nat → Int → Int → Int → Prop
  | 0, _, _, _ => False
  | nn9 + 1, z15, z16, z17 => tr_d_X12_needs_2 x1 x2 A z (fun z15 z16 z17 => d_X12_needs_2 x1 x2 A z nn9 z15 z16 z17) z15 z16 z17
theorem u_d_X12_needs_2 {x1 : Int} {x2 : Int} {A : St} {z : Int} {nn9 : Nat} {z15 : Int} {z16 : Int} {z17 : Int} (h : tr_d_X12_needs_2 x1 x2 A z (fun z15 z16 z17 => d_X12_needs_2 x1 x2 A z nn9 z15 z16 z17) z15 z16 z17) : d_X12_needs_2 x1 x2 A z (nn9 + 1) z15 z16 z17 := h
abbrev tr_d_X12_needs_1 (x1 : Int) (x2 : Int) (A : St) (z : Int) : Prop := (∃ z9 : Int, z9 = A 16 ((A 0 12)).toNat ∧ (∃ z10 : Int, z10 = oShl 1 z9 ∧ (∃ z11 : Int, q_X12_canOpen (z10 - 1) x1 A z11 ∧ (((¬ z11 = 0) ∧ (∃ nn9 : Nat, d_X12_needs_2 x1 x2 A z nn9 0 0 0)) ∨ ((z11 = 0) ∧ (z = (-1)))))))
def d_X12_needs_1 (x1 : Int) (x2 : Int) (A : St) (z : Int) : Prop := tr_d_X12_needs_1 x1 x2 A z
theorem u_d_X12_needs_1 {x1 : Int} {x2 : Int} {A : St} {z : Int} (h : tr_d_X12_needs_1 x1 x2 A z) : d_X12_needs_1 x1 x2 A z := h
abbrev tr_r_X12_needs (x1 : Int) (x2 : Int) (A : St) (z : Int) : Prop := (∃ z1 : Int, q_X12_isDoor x1 A z1 ∧ (((z1 = 0) ∧ (z = (-1))) ∨ ((¬ z1 = 0) ∧ (((x2 = 0) ∧ (d_X12_needs_1 x1 x2 A z)) ∨ ((¬ x2 = 0) ∧ (((¬ x2 = 1) ∧ (z = (-1))) ∨ ((x2 = 1) ∧ (d_X12_needs_1 x1 x2 A z))))))))
def r_X12_needs (x1 : Int) (x2 : Int) (A : St) (z : Int) : Prop := tr_r_X12_needs x1 x2 A z
theorem u_r_X12_needs {x1 : Int} {x2 : Int} {A : St} {z : Int} (h : tr_r_X12_needs x1 x2 A z) : r_X12_needs x1 x2 A z := h
def ws_mc_X12_needs : List Cond := .code yX12_needs cX12_needs 8 (some .int) :: WX
set_option maxHeartbeats 4000000 in
set_option maxRecDepth 100000 in
theorem mc_X12_needs (l : Launch) (dC : Nat → ClassId) (dI : Nat → Nat → Nat) (cB cI cJ cZ cQ : ClassId) (q : Nat → Nat) (A : St) (x1 x2 : Int) (hI : IM A) (hx1 : (-2147483648 : Int) ≤ x1 ∧ x1 ≤ 2147483647) (hx2 : (-2147483648 : Int) ≤ x2 ∧ x2 ≤ 2147483647) : XMi l yX12_needs ws_mc_X12_needs ({ frames := 3, cells := 0, slots := 0, locals := 69 } : Room) (dC, dI) (tyA cB cI cJ cZ cQ) (WM cI cJ cZ q) A [.ref (q 0), .int (iI x1), .int (iI x2)] (fun z u => A = u ∧ r_X12_needs x1 x2 A z ∧ (-2147483648 ≤ z ∧ z ≤ 2147483647)) := by
  refine x_meti (cc := cX12_needs) (maxL := 8) WM_adr (by decide +kernel) rfl (Nat.le_of_ble_eq_true rfl) (fun p e s m below meth c Q AS ls hx hb hml hown hts hK hDD hA0 hP hS hl RET => ?_)
  have hown : s.vm.findClass RX12 = some m.cls := hown
  have hl : lv_has ls 8 [(0, .ref (q 0)), (1, .int (iI x1)), (2, .int (iI x2))] := hl
  have hiX12 : ∀ w ∈ u_ws RX12 TX12 85, w ∈ ws_mc_X12_needs := fun w h => List.mem_cons_of_mem _ (wx_lay w h)
  obtain ⟨H, hHe⟩ : ∃ H : Heap, H = s.heap := ⟨_, rfl⟩
  rw [← hHe] at hP
  have hS : va_S AS s.heap H [] := by rw [hHe]; exact hS
  suffices hgo : ∀ locs : List Loc, va_S AS s.heap H locs → W p l e (headSpec ws_mc_X12_needs ({ frames := 3, cells := 0, slots := 0, locals := 69 } : Room)).room s m [.ref (q 0), .int (iI x1), .int (iI x2)].toArray below meth c H locs 0 0 Q (F0 m 0 ls []) by
    have := hgo [] hS
    rw [hHe] at this
    exact this
  clear hS hHe
  intro locs hS
  refine lv_aload_n hx hb (dk_at dkX12_needs_0 0 rfl) rfl (lv_at hl 0 rfl) ?_
  refine lv_iload_n hx hb (dk_at dkX12_needs_0 1 rfl) rfl (lv_at hl 1 rfl) ?_
  have r_A_0_12 : (0 : Int) ≤ (A 0 12) ∧ (A 0 12) ≤ 1 := hI 0 12
  refine x_calli (As := [.int (iI x1)]) (rest := []) ⟨hx, hb, hml, hown, hts⟩ (mc_X12_isDoorB l dC dI cB cI cJ cZ cQ q _ x1 hI hx1) (cwV 1 hts (goodV wlq_5_14 wlq_5_15 wlq_5_16 wlq_0_8 wlq_4_38) rfl rfl rfl (by decide +kernel) ⟨Nat.le_of_ble_eq_true rfl, Nat.le_of_ble_eq_true rfl⟩) hK hDD hA0 hP hS 0 12 wm0 rfl rfl hl.1 (Nat.le_of_ble_eq_true rfl) (dk_at dkX12_needs_0 2 rfl) (fun z1 A2 H locs hw3 hP hS => ?_)
  obtain ⟨rfl, hw3⟩ := hw3
  have ghw3 : q_X12_isDoor x1 A z1 := hw3
  have hw3 := hw3.2
  have rz1 : 0 ≤ z1 ∧ z1 ≤ 1 := hw3.1
  refine lv_if_eq (tgt := 38) hx hb (dk_at dkX12_needs_0 3 rfl) (by decide) (fun c4 => ?_) (fun c4 => ?_)
  · have c4 : z1 = 0 := (i_eq0 (rb rz1 (by decide) (by decide))).mp c4
    clear hw3
    refine lv_iconst (v := iI (-1)) hx hb (dk_at dkX12_needs_1 6 rfl) (by decide +kernel) ?_
    exact RET (-1) _ _ _ _ _ ⟨rfl, (u_r_X12_needs ⟨z1, ghw3, (Or.inl ⟨c4, rfl⟩)⟩), by omega⟩ hP hS (dk_at dkX12_needs_1 7 rfl)
  · have c4 : ¬ z1 = 0 := mt (i_eq0 (rb rz1 (by decide) (by decide))).mpr c4
    have hw3b := hw3.2.mp (by omega)
    clear hw3
    refine lv_iload_n hx hb (dk_at dkX12_needs_0 4 rfl) rfl (lv_at hl 2 rfl) ?_
    have J17_6 : ∀ (H : Heap) (locs : List Loc) (ls : Array Slot), (∀ (z : Int), (d_X12_needs_1 x1 x2 A z) → r_X12_needs x1 x2 A z) → va_P (dC, dI) vwCl (WM cI cJ cZ q A) H → va_S AS s.heap H locs → lv_has ls 8 [(0, .ref (q 0)), (1, .int (iI x1)), (2, .int (iI x2))] → W p l e (headSpec ws_mc_X12_needs ({ frames := 3, cells := 0, slots := 0, locals := 69 } : Room)).room s m [.ref (q 0), .int (iI x1), .int (iI x2)].toArray below meth c H locs 0 0 Q (F0 m 17 ls []) := by
      intro H locs ls hk1 hP hS hl
      refine lv_aload_n hx hb (dk_at dkX12_needs_0 9 rfl) rfl (lv_at hl 0 rfl) ?_
      refine lv_iconst (v := iI 1) hx hb (dk_at dkX12_needs_0 10 rfl) (by decide +kernel) ?_
      refine lv_aload_n hx hb (dk_at dkX12_needs_0 11 rfl) rfl (lv_at hl 0 rfl) ?_
      refine va_get (D := (dC, dI)) (ci := 12) (v := .ref (q 16)) (C := RX12) (T := TX12) (N := 85) hx hb hts hiX12 hown hK hP 0 wm0 rfl 27 (by decide) (hts _ (List.mem_cons_of_mem _ wlq_1_15)) (fun _ h9 => h9) rfl (dk_at dkX12_needs_0 12 rfl) ?_
      refine lv_aload_n hx hb (dk_at dkX12_needs_0 13 rfl) rfl (lv_at hl 0 rfl) ?_
      refine va_get (D := (dC, dI)) (ci := 12) (v := .int (iI (A 0 12))) (C := RX12) (T := TX12) (N := 85) hx hb hts hiX12 hown hK hP 0 wm0 rfl 12 (by decide) (hts _ (List.mem_cons_of_mem _ wlq_4_14)) (fun _ h9 => h9) rfl (dk_at dkX12_needs_0 14 rfl) ?_
      refine x_iald hx hb hK hP 16 1 wm16 rfl (by omega) (by decide) (dk_at dkX12_needs_0 15 rfl) (fun z9 hz9 => ?_)
      have rz9 : (0 : Int) ≤ z9 ∧ z9 ≤ 3 := by rw [hz9]; exact hI 16 _
      have gz9 := Hd.mk hz9
      have hz9 : z9 = A 16 ((A 0 12)).toNat := hz9
      refine x_shl1E (M := 3) (t := 8) hx hb (dk_at dkX12_needs_1 0 rfl) (by omega) (by decide) (by decide) (fun z10 gz10 hz10 => ?_)
      refine lv_iconst (v := iI 1) hx hb (dk_at dkX12_needs_1 1 rfl) (by decide +kernel) ?_
      refine x_subv (v := z10 - 1) hx hb (dk_at dkX12_needs_1 2 rfl) (by omega) ?_
      refine lv_iload_n hx hb (dk_at dkX12_needs_1 3 rfl) rfl (lv_at hl 1 rfl) ?_
      refine x_calli (As := [.int (iI (z10 - 1)), .int (iI x1)]) (rest := []) ⟨hx, hb, hml, hown, hts⟩ (mc_X12_canOpen l dC dI cB cI cJ cZ cQ q _ (z10 - 1) x1 hI (by omega) (by omega)) (cwV 2 hts (goodV wlq_7_43 wlq_7_44 wlq_7_45 wlq_0_8 wlq_7_41) rfl rfl rfl (by decide +kernel) ⟨Nat.le_of_ble_eq_true rfl, Nat.le_of_ble_eq_true rfl⟩) hK hDD hA0 hP hS 0 12 wm0 rfl rfl hl.1 (Nat.le_of_ble_eq_true rfl) (dk_at dkX12_needs_1 4 rfl) (fun z11 A12 H locs hw13 hP hS => ?_)
      obtain ⟨rfl, hw13⟩ := hw13
      have ghw13 : q_X12_canOpen (z10 - 1) x1 A z11 := hw13
      have hw13 := hw13.2
      refine lv_if_ne (tgt := 40) hx hb (dk_at dkX12_needs_1 5 rfl) (by decide) (fun c14 => ?_) (fun c14 => ?_)
      · have c14 : ¬ z11 = 0 := mt (i_eq0 (rb hw13 (by decide) (by decide))).mpr c14
        refine lv_iconst (v := iI 0) hx hb (dk_at dkX12_needs_1 8 rfl) (by decide +kernel) ?_
        refine lv_istore_n (lv' := [(3, .int (iI 0)), (0, .ref (q 0)), (1, .int (iI x1)), (2, .int (iI x2))]) hx hb (dk_at dkX12_needs_1 9 rfl) rfl hl (by decide) rfl (fun ls hl => ?_)
        refine lv_iconst (v := iI 0) hx hb (dk_at dkX12_needs_1 10 rfl) (by decide +kernel) ?_
        refine lv_istore (lv' := [(4, .int (iI 0)), (3, .int (iI 0)), (0, .ref (q 0)), (1, .int (iI x1)), (2, .int (iI x2))]) hx hb (dk_at dkX12_needs_1 11 rfl) hl (by decide) rfl (fun ls hl => ?_)
        refine lv_iconst (v := iI 0) hx hb (dk_at dkX12_needs_1 12 rfl) (by decide +kernel) ?_
        refine lv_istore (lv' := [(5, .int (iI 0)), (4, .int (iI 0)), (3, .int (iI 0)), (0, .ref (q 0)), (1, .int (iI x1)), (2, .int (iI x2))]) hx hb (dk_at dkX12_needs_1 13 rfl) hl (by decide) rfl (fun ls hl => ?_)
        have L48_20 : ∀ (n22 : Nat) (z15 z16 z17 : Int) (H : Heap) (locs : List Loc) (ls : Array Slot), (0 ≤ z15) → (0 ≤ z15 ∧ z15 ≤ 2147483647) → (-2147483648 ≤ z16 ∧ z16 ≤ 2147483647) → (-2147483648 ≤ z17 ∧ z17 ≤ 2147483647) → (∀ (z : Int), (∃ mm2 : Nat, (d_X12_needs_2 x1 x2 A z mm2 z15 z16 z17)) → r_X12_needs x1 x2 A z) → ((A 11 ((A 0 12)).toNat - z15 + 1).toNat = n22) → va_P (dC, dI) vwCl (WM cI cJ cZ q A) H → va_S AS s.heap H locs → lv_has ls 8 [(5, .int (iI z15)), (4, .int (iI z16)), (3, .int (iI z17)), (0, .ref (q 0)), (1, .int (iI x1)), (2, .int (iI x2))] → W p l e (headSpec ws_mc_X12_needs ({ frames := 3, cells := 0, slots := 0, locals := 69 } : Room)).room s m [.ref (q 0), .int (iI x1), .int (iI x2)].toArray below meth c H locs 0 0 Q (F0 m 48 ls []) := by
          intro n22
          induction n22 using Nat.strongRecOn with
          | ind n22 ih21 =>
            intro z15 z16 z17 H locs ls f23 f24 f25 f26 hk2 hn22 hP hS hl
            refine lv_iload hx hb (dk_at dkX12_needs_1 14 rfl) (lv_at hl 0 rfl) ?_
            refine lv_aload_n hx hb (dk_at dkX12_needs_1 15 rfl) rfl (lv_at hl 3 rfl) ?_
            refine va_get (D := (dC, dI)) (ci := 12) (v := .ref (q 11)) (C := RX12) (T := TX12) (N := 85) hx hb hts hiX12 hown hK hP 0 wm0 rfl 22 (by decide) (hts _ (List.mem_cons_of_mem _ wlq_1_14)) (fun _ h9 => h9) rfl (dk_at dkX12_needs_2 0 rfl) ?_
            refine lv_aload_n hx hb (dk_at dkX12_needs_2 1 rfl) rfl (lv_at hl 3 rfl) ?_
            refine va_get (D := (dC, dI)) (ci := 12) (v := .int (iI (A 0 12))) (C := RX12) (T := TX12) (N := 85) hx hb hts hiX12 hown hK hP 0 wm0 rfl 12 (by decide) (hts _ (List.mem_cons_of_mem _ wlq_4_14)) (fun _ h9 => h9) rfl (dk_at dkX12_needs_2 2 rfl) ?_
            refine x_iald hx hb hK hP 11 1 wm11 rfl (by omega) (by decide) (dk_at dkX12_needs_2 3 rfl) (fun z27 hz27 => ?_)
            have rz27 : (0 : Int) ≤ z27 ∧ z27 ≤ 4 := by rw [hz27]; exact hI 11 _
            have gz27 := Hd.mk hz27
            have hz27 : z27 = A 11 ((A 0 12)).toNat := hz27
            refine lv_icmp_ge (tgt := 147) hx hb (dk_at dkX12_needs_2 4 rfl) (by decide) (fun c28 => ?_) (fun c28 => ?_)
            · have c28 : z27 ≤ z15 := (i_le (rb rz27 (by decide) (by decide)) (rb f24 (by decide) (by decide))).mp c28
              refine lv_iload_n hx hb (dk_at dkX12_needs_5 3 rfl) rfl (lv_at hl 5 rfl) ?_
              refine lv_if_ne (tgt := 158) hx hb (dk_at dkX12_needs_5 4 rfl) (by decide) (fun c29 => ?_) (fun c29 => ?_)
              · have c29 : ¬ x2 = 0 := mt (i_eq0 hx2).mpr c29
                refine lv_iload hx hb (dk_at dkX12_needs_5 8 rfl) (lv_at hl 1 rfl) ?_
                exact RET z16 _ _ _ _ _ ⟨rfl, hk2 _ ⟨0 + 1, (u_d_X12_needs_2 ⟨f24, ⟨f25, ⟨f26, ⟨z27, gz27.out, (Or.inl ⟨c28, (Or.inl ⟨c29, rfl⟩)⟩)⟩⟩⟩⟩)⟩, by omega⟩ hP hS (dk_at dkX12_needs_5 9 rfl)
              · have c29 : x2 = 0 := (i_eq0 hx2).mp c29
                refine lv_iload_n hx hb (dk_at dkX12_needs_5 5 rfl) rfl (lv_at hl 2 rfl) ?_
                refine x_callSi (As := [.int (iI z17)]) (rest := []) ⟨hx, hb, hml, hown, hts⟩ (mc_X12_bitsOf l dC dI cB cI cJ cZ cQ q _ z17 hI f26) (va_cwS 1 hts (goodS wlq_5_44 wlq_5_45 wlq_0_8 wlq_5_27) rfl rfl rfl (by decide +kernel) ⟨Nat.le_of_ble_eq_true rfl, Nat.le_of_ble_eq_true rfl⟩) hK hDD hA0 hP hS rfl hl.1 (Nat.le_of_ble_eq_true rfl) (dk_at dkX12_needs_5 6 rfl) (fun z30 A31 H locs hw32 hP hS => ?_)
                obtain ⟨rfl, hw32⟩ := hw32
                have ghw32 : q_X12_bitsOf z17 A z30 := hw32
                have hw32 := hw32.2
                refine lv_goto (tgt := 160) hx hb (dk_at dkX12_needs_5 7 rfl) (by decide) ?_
                exact RET z30 _ _ _ _ _ ⟨rfl, hk2 _ ⟨0 + 1, (u_d_X12_needs_2 ⟨f24, ⟨f25, ⟨f26, ⟨z27, gz27.out, (Or.inl ⟨c28, (Or.inr ⟨c29, ⟨z30, ghw32, rfl⟩⟩)⟩)⟩⟩⟩⟩)⟩, by omega⟩ hP hS (dk_at dkX12_needs_5 9 rfl)
            · have c28 : ¬ z27 ≤ z15 := mt (i_le (rb rz27 (by decide) (by decide)) (rb f24 (by decide) (by decide))).mpr c28
              refine lv_aload_n hx hb (dk_at dkX12_needs_2 5 rfl) rfl (lv_at hl 3 rfl) ?_
              refine va_get (D := (dC, dI)) (ci := 12) (v := .ref (q 14)) (C := RX12) (T := TX12) (N := 85) hx hb hts hiX12 hown hK hP 0 wm0 rfl 25 (by decide) (hts _ (List.mem_cons_of_mem _ wlq_2_59)) (fun _ h9 => h9) rfl (dk_at dkX12_needs_2 6 rfl) ?_
              refine lv_aload_n hx hb (dk_at dkX12_needs_2 7 rfl) rfl (lv_at hl 3 rfl) ?_
              refine lv_iload hx hb (dk_at dkX12_needs_2 8 rfl) (lv_at hl 0 rfl) ?_
              refine x_calli (As := [.int (iI z15)]) (rest := [.ref (q 14)]) ⟨hx, hb, hml, hown, hts⟩ (mc_X12_key4 l dC dI cB cI cJ cZ cQ q _ z15 hI (by omega)) (cwV 1 hts (goodV wlq_4_44 wlq_4_45 wlq_4_46 wlq_0_8 wlq_4_41) rfl rfl rfl (by decide +kernel) ⟨Nat.le_of_ble_eq_true rfl, Nat.le_of_ble_eq_true rfl⟩) hK hDD hA0 hP hS 0 12 wm0 rfl rfl hl.1 (Nat.le_of_ble_eq_true rfl) (dk_at dkX12_needs_2 9 rfl) (fun z33 A34 H locs hw35 hP hS => ?_)
              obtain ⟨rfl, hw35⟩ := hw35
              have ghw35 : q_X12_key4 z15 A z33 := hw35
              have hw35 := hw35.2
              refine tp_i (y := iI (4 * (A 0 12) + z15)) (congrArg iI (show z33 = 4 * (A 0 12) + z15 by omega)) ?_
              clear hw35
              refine x_iald hx hb hK hP 14 1 wm14 rfl (by omega) (by decide) (dk_at dkX12_needs_2 10 rfl) (fun z36 hz36 => ?_)
              have rz36 : (0 : Int) ≤ z36 ∧ z36 ≤ 6 := by rw [hz36]; exact hI 14 _
              have gz36 := Hd.mk hz36
              have hz36 : z36 = A 14 (4 * (A 0 12) + z15).toNat := hz36
              refine lv_istore (lv' := [(6, .int (iI z36)), (5, .int (iI z15)), (4, .int (iI z16)), (3, .int (iI z17)), (0, .ref (q 0)), (1, .int (iI x1)), (2, .int (iI x2))]) hx hb (dk_at dkX12_needs_2 11 rfl) hl (by decide) rfl (fun ls hl => ?_)
              refine lv_iconst (v := iI 0) hx hb (dk_at dkX12_needs_2 12 rfl) (by decide +kernel) ?_
              refine lv_istore (lv' := [(7, .int (iI 0)), (6, .int (iI z36)), (5, .int (iI z15)), (4, .int (iI z16)), (3, .int (iI z17)), (0, .ref (q 0)), (1, .int (iI x1)), (2, .int (iI x2))]) hx hb (dk_at dkX12_needs_2 13 rfl) hl (by decide) rfl (fun ls hl => ?_)
              have L78_41 : ∀ (n43 : Nat) (z37 z38 z39 : Int) (H : Heap) (locs : List Loc) (ls : Array Slot), (0 ≤ z37) → (0 ≤ z37 ∧ z37 ≤ 2147483647) → (-2147483648 ≤ z38 ∧ z38 ≤ 2147483647) → (-2147483648 ≤ z39 ∧ z39 ≤ 2147483647) → (∀ (z : Int), (∃ mm2 mm3 : Nat, (d_X12_needs_3 (fun z15' z16' z17' => d_X12_needs_2 x1 x2 A z mm2 z15' z16' z17') x1 z15 z36 A z mm3 z37 z38 z39)) → r_X12_needs x1 x2 A z) → ((z36 - z37 + 1).toNat = n43) → va_P (dC, dI) vwCl (WM cI cJ cZ q A) H → va_S AS s.heap H locs → lv_has ls 8 [(7, .int (iI z37)), (6, .int (iI z36)), (5, .int (iI z15)), (4, .int (iI z38)), (3, .int (iI z39)), (0, .ref (q 0)), (1, .int (iI x1)), (2, .int (iI x2))] → W p l e (headSpec ws_mc_X12_needs ({ frames := 3, cells := 0, slots := 0, locals := 69 } : Room)).room s m [.ref (q 0), .int (iI x1), .int (iI x2)].toArray below meth c H locs 0 0 Q (F0 m 78 ls []) := by
                intro n43
                induction n43 using Nat.strongRecOn with
                | ind n43 ih42 =>
                  intro z37 z38 z39 H locs ls f44 f45 f46 f47 hk3 hn43 hP hS hl
                  refine lv_iload hx hb (dk_at dkX12_needs_2 14 rfl) (lv_at hl 0 rfl) ?_
                  refine lv_iload hx hb (dk_at dkX12_needs_2 15 rfl) (lv_at hl 1 rfl) ?_
                  refine lv_icmp_ge (tgt := 141) hx hb (dk_at dkX12_needs_3 0 rfl) (by decide) (fun c48 => ?_) (fun c48 => ?_)
                  · have c48 : z36 ≤ z37 := (i_le (rb rz36 (by decide) (by decide)) (rb f45 (by decide) (by decide))).mp c48
                    refine lv_iinc (v := iI (z15 + 1)) (lv' := [(5, .int (iI (z15 + 1))), (7, .int (iI z37)), (6, .int (iI z36)), (4, .int (iI z38)), (3, .int (iI z39)), (0, .ref (q 0)), (1, .int (iI x1)), (2, .int (iI x2))]) hx hb (dk_at dkX12_needs_5 1 rfl) hl (k := 2) rfl (i_inc (by omega)) (by decide) rfl (fun ls hl => ?_)
                    refine lv_goto (tgt := 48) hx hb (dk_at dkX12_needs_5 2 rfl) (by decide) ?_
                    exact ih21 _ (by omega) (z15 + 1) z38 z39 _ _ _ (by omega) (by omega) (by omega) (by omega) (fun zq ⟨mm2, hq⟩ => hk3 _ ⟨mm2, 0 + 1, (u_d_X12_needs_3 ⟨f45, ⟨f46, ⟨f47, (Or.inl ⟨c48, hq⟩)⟩⟩⟩)⟩) rfl hP hS (lv_sub hl [0, 3, 4, 5, 6, 7] rfl)
                  · have c48 : ¬ z36 ≤ z37 := mt (i_le (rb rz36 (by decide) (by decide)) (rb f45 (by decide) (by decide))).mpr c48
                    refine lv_aload_n hx hb (dk_at dkX12_needs_3 1 rfl) rfl (lv_at hl 5 rfl) ?_
                    refine va_get (D := (dC, dI)) (ci := 12) (v := .ref (q 15)) (C := RX12) (T := TX12) (N := 85) hx hb hts hiX12 hown hK hP 0 wm0 rfl 26 (by decide) (hts _ (List.mem_cons_of_mem _ wlq_3_7)) (fun _ h9 => h9) rfl (dk_at dkX12_needs_3 2 rfl) ?_
                    refine lv_bipush (v := iI 10) hx hb (dk_at dkX12_needs_3 3 rfl) (by decide +kernel) ?_
                    refine lv_aload_n hx hb (dk_at dkX12_needs_3 4 rfl) rfl (lv_at hl 5 rfl) ?_
                    refine lv_iload hx hb (dk_at dkX12_needs_3 5 rfl) (lv_at hl 2 rfl) ?_
                    refine x_calli (As := [.int (iI z15)]) (rest := [.int (iI 10), .ref (q 15)]) ⟨hx, hb, hml, hown, hts⟩ (mc_X12_key4 l dC dI cB cI cJ cZ cQ q _ z15 hI (by omega)) (cwV 1 hts (goodV wlq_4_44 wlq_4_45 wlq_4_46 wlq_0_8 wlq_4_41) rfl rfl rfl (by decide +kernel) ⟨Nat.le_of_ble_eq_true rfl, Nat.le_of_ble_eq_true rfl⟩) hK hDD hA0 hP hS 0 12 wm0 rfl rfl hl.1 (Nat.le_of_ble_eq_true rfl) (dk_at dkX12_needs_3 6 rfl) (fun z49 A50 H locs hw51 hP hS => ?_)
                    obtain ⟨rfl, hw51⟩ := hw51
                    have ghw51 : q_X12_key4 z15 A z49 := hw51
                    have hw51 := hw51.2
                    refine tp_i (y := iI (4 * (A 0 12) + z15)) (congrArg iI (show z49 = 4 * (A 0 12) + z15 by omega)) ?_
                    clear hw51
                    refine x_mulv (v := 40 * (A 0 12) + 10 * z15) hx hb (dk_at dkX12_needs_3 7 rfl) (by omega) ?_
                    refine lv_iload hx hb (dk_at dkX12_needs_3 8 rfl) (lv_at hl 0 rfl) ?_
                    refine x_addv (v := 40 * (A 0 12) + 10 * z15 + z37) hx hb (dk_at dkX12_needs_3 9 rfl) (by omega) ?_
                    refine x_iald hx hb hK hP 15 1 wm15 rfl (by omega) (by decide) (dk_at dkX12_needs_3 10 rfl) (fun z52 hz52 => ?_)
                    have rz52 : (0 : Int) ≤ z52 ∧ z52 ≤ 9 := by rw [hz52]; exact hI 15 _
                    have gz52 := Hd.mk hz52
                    have hz52 : z52 = A 15 (40 * (A 0 12) + 10 * z15 + z37).toNat := hz52
                    refine lv_iload_n hx hb (dk_at dkX12_needs_3 11 rfl) rfl (lv_at hl 6 rfl) ?_
                    have J135_54 : ∀ (z62 z63 : Int) (H : Heap) (locs : List Loc) (ls : Array Slot), (-2147483648 ≤ z62 ∧ z62 ≤ 2147483647) → (-2147483648 ≤ z63 ∧ z63 ≤ 2147483647) → (∀ (z : Int), (∃ mm2 mm3 : Nat, (d_X12_needs_4 (fun z37' z38' z39' => d_X12_needs_3 (fun z15' z16' z17' => d_X12_needs_2 x1 x2 A z mm2 z15' z16' z17') x1 z15 z36 A z mm3 z37' z38' z39') z37 z z62 z63)) → r_X12_needs x1 x2 A z) → va_P (dC, dI) vwCl (WM cI cJ cZ q A) H → va_S AS s.heap H locs → lv_has ls 8 [(4, .int (iI z62)), (3, .int (iI z63)), (7, .int (iI z37)), (6, .int (iI z36)), (5, .int (iI z15)), (0, .ref (q 0)), (1, .int (iI x1)), (2, .int (iI x2))] → W p l e (headSpec ws_mc_X12_needs ({ frames := 3, cells := 0, slots := 0, locals := 69 } : Room)).room s m [.ref (q 0), .int (iI x1), .int (iI x2)].toArray below meth c H locs 0 0 Q (F0 m 135 ls []) := by
                      intro z62 z63 H locs ls f65 f66 hk4 hP hS hl
                      refine lv_iinc (v := iI (z37 + 1)) (lv' := [(7, .int (iI (z37 + 1))), (4, .int (iI z62)), (3, .int (iI z63)), (6, .int (iI z36)), (5, .int (iI z15)), (0, .ref (q 0)), (1, .int (iI x1)), (2, .int (iI x2))]) hx hb (dk_at dkX12_needs_4 15 rfl) hl (k := 2) rfl (i_inc (by omega)) (by decide) rfl (fun ls hl => ?_)
                      refine lv_goto (tgt := 78) hx hb (dk_at dkX12_needs_5 0 rfl) (by decide) ?_
                      exact ih42 _ (by omega) (z37 + 1) z62 z63 _ _ _ (by omega) (by omega) (by omega) (by omega) (fun zq ⟨mm2, mm3, hq⟩ => hk4 _ ⟨mm2, mm3, (u_d_X12_needs_4 ⟨f65, ⟨f66, hq⟩⟩)⟩) rfl hP hS (lv_sub hl [0, 3, 4, 1, 2, 5, 6, 7] rfl)
                    refine lv_icmp_eq (tgt := 109) hx hb (dk_at dkX12_needs_3 12 rfl) (by decide) (fun c53 => ?_) (fun c53 => ?_)
                    · have c53 : z52 = x1 := (i_eq (rb rz52 (by decide) (by decide)) hx1).mp c53
                      refine lv_iload_n hx hb (dk_at dkX12_needs_3 14 rfl) rfl (lv_at hl 4 rfl) ?_
                      refine lv_iconst (v := iI 1) hx hb (dk_at dkX12_needs_3 15 rfl) (by decide +kernel) ?_
                      refine lv_aload_n hx hb (dk_at dkX12_needs_4 0 rfl) rfl (lv_at hl 5 rfl) ?_
                      refine va_get (D := (dC, dI)) (ci := 12) (v := .ref (q 13)) (C := RX12) (T := TX12) (N := 85) hx hb hts hiX12 hown hK hP 0 wm0 rfl 24 (by decide) (hts _ (List.mem_cons_of_mem _ wlq_2_58)) (fun _ h9 => h9) rfl (dk_at dkX12_needs_4 1 rfl) ?_
                      refine lv_aload_n hx hb (dk_at dkX12_needs_4 2 rfl) rfl (lv_at hl 5 rfl) ?_
                      refine lv_iload hx hb (dk_at dkX12_needs_4 3 rfl) (lv_at hl 2 rfl) ?_
                      refine x_calli (As := [.int (iI z15)]) (rest := [.ref (q 13), .int (iI 1), .int (iI z39)]) ⟨hx, hb, hml, hown, hts⟩ (mc_X12_key4 l dC dI cB cI cJ cZ cQ q _ z15 hI (by omega)) (cwV 1 hts (goodV wlq_4_44 wlq_4_45 wlq_4_46 wlq_0_8 wlq_4_41) rfl rfl rfl (by decide +kernel) ⟨Nat.le_of_ble_eq_true rfl, Nat.le_of_ble_eq_true rfl⟩) hK hDD hA0 hP hS 0 12 wm0 rfl rfl hl.1 (Nat.le_of_ble_eq_true rfl) (dk_at dkX12_needs_4 4 rfl) (fun z55 A56 H locs hw57 hP hS => ?_)
                      obtain ⟨rfl, hw57⟩ := hw57
                      have ghw57 : q_X12_key4 z15 A z55 := hw57
                      have hw57 := hw57.2
                      refine tp_i (y := iI (4 * (A 0 12) + z15)) (congrArg iI (show z55 = 4 * (A 0 12) + z15 by omega)) ?_
                      clear hw57
                      refine x_iald hx hb hK hP 13 1 wm13 rfl (by omega) (by decide) (dk_at dkX12_needs_4 5 rfl) (fun z58 hz58 => ?_)
                      have rz58 : (0 : Int) ≤ z58 ∧ z58 ≤ 40 := by rw [hz58]; exact hI 13 _
                      have gz58 := Hd.mk hz58
                      have hz58 : z58 = A 13 (4 * (A 0 12) + z15).toNat := hz58
                      refine lv_ishl hx hb (dk_at dkX12_needs_4 6 rfl) ?_
                      refine x_absE (fun z59 gz59 hz59 => ?_)
                      refine lv_ior hx hb (dk_at dkX12_needs_4 7 rfl) ?_
                      refine x_absE (fun z60 gz60 hz60 => ?_)
                      refine lv_istore_n (lv' := [(3, .int (iI z60)), (7, .int (iI z37)), (6, .int (iI z36)), (5, .int (iI z15)), (4, .int (iI z38)), (0, .ref (q 0)), (1, .int (iI x1)), (2, .int (iI x2))]) hx hb (dk_at dkX12_needs_4 8 rfl) rfl hl (by decide) rfl (fun ls hl => ?_)
                      refine lv_iload hx hb (dk_at dkX12_needs_4 9 rfl) (lv_at hl 4 rfl) ?_
                      refine lv_iload hx hb (dk_at dkX12_needs_4 10 rfl) (lv_at hl 2 rfl) ?_
                      refine lv_iload hx hb (dk_at dkX12_needs_4 11 rfl) (lv_at hl 1 rfl) ?_
                      refine x_subv (v := z36 - z37) hx hb (dk_at dkX12_needs_4 12 rfl) (by omega) ?_
                      refine x_addv (v := z38 + z36 - z37) hx hb (dk_at dkX12_needs_4 13 rfl) (by omega) ?_
                      refine x_absE (fun z61 gz61 hz61 => ?_)
                      refine lv_istore (lv' := [(4, .int (iI z61)), (3, .int (iI z60)), (7, .int (iI z37)), (6, .int (iI z36)), (5, .int (iI z15)), (0, .ref (q 0)), (1, .int (iI x1)), (2, .int (iI x2))]) hx hb (dk_at dkX12_needs_4 14 rfl) hl (by decide) rfl (fun ls hl => ?_)
                      exact J135_54 z61 z60 _ _ _ (by omega) (by omega) (fun zq ⟨mm2, mm3, hq⟩ => hk3 _ ⟨mm2, mm3 + 1, (u_d_X12_needs_3 ⟨f45, ⟨f46, ⟨f47, (Or.inr ⟨c48, ⟨z49, ghw51, ⟨z52, gz52.out, (Or.inl ⟨c53, ⟨z55, ghw57, ⟨z58, gz58.out, ⟨z59, gz59.out, ⟨z60, gz60.out, ⟨z61, gz61.out, hq⟩⟩⟩⟩⟩⟩)⟩⟩⟩)⟩⟩⟩)⟩) hP hS (lv_sub hl [0, 1, 2, 3, 4, 5, 6, 7] rfl)
                    · have c53 : ¬ z52 = x1 := mt (i_eq (rb rz52 (by decide) (by decide)) hx1).mpr c53
                      refine lv_goto (tgt := 135) hx hb (dk_at dkX12_needs_3 13 rfl) (by decide) ?_
                      exact J135_54 z38 z39 _ _ _ (by omega) (by omega) (fun zq ⟨mm2, mm3, hq⟩ => hk3 _ ⟨mm2, mm3 + 1, (u_d_X12_needs_3 ⟨f45, ⟨f46, ⟨f47, (Or.inr ⟨c48, ⟨z49, ghw51, ⟨z52, gz52.out, (Or.inr ⟨c53, hq⟩)⟩⟩⟩)⟩⟩⟩)⟩) hP hS (lv_sub hl [3, 4, 0, 1, 2, 5, 6, 7] rfl)
              exact L78_41 _ 0 z16 z17 _ _ _ (by omega) (by omega) (by omega) (by omega) (fun zq ⟨mm2, mm3, hq⟩ => hk2 _ ⟨mm2 + 1, (u_d_X12_needs_2 ⟨f24, ⟨f25, ⟨f26, ⟨z27, gz27.out, (Or.inr ⟨c28, ⟨z33, ghw35, ⟨z36, gz36.out, ⟨mm3, hq⟩⟩⟩⟩)⟩⟩⟩⟩)⟩) rfl hP hS (lv_sub hl [0, 1, 2, 3, 4, 5, 6, 7] rfl)
        exact L48_20 _ 0 0 0 _ _ _ (by omega) (by omega) (by omega) (by omega) (fun zq ⟨mm2, hq⟩ => hk1 _ (u_d_X12_needs_1 ⟨z9, gz9.out, ⟨z10, gz10.out, ⟨z11, ghw13, (Or.inl ⟨c14, ⟨mm2, hq⟩⟩)⟩⟩⟩)) rfl hP hS (lv_sub hl [0, 1, 2, 3, 4, 5] rfl)
      · have c14 : z11 = 0 := (i_eq0 (rb hw13 (by decide) (by decide))).mp c14
        refine lv_iconst (v := iI (-1)) hx hb (dk_at dkX12_needs_1 6 rfl) (by decide +kernel) ?_
        exact RET (-1) _ _ _ _ _ ⟨rfl, hk1 _ (u_d_X12_needs_1 ⟨z9, gz9.out, ⟨z10, gz10.out, ⟨z11, ghw13, (Or.inr ⟨c14, rfl⟩)⟩⟩⟩), by omega⟩ hP hS (dk_at dkX12_needs_1 7 rfl)
    refine lv_if_eq (tgt := 17) hx hb (dk_at dkX12_needs_0 5 rfl) (by decide) (fun c5 => ?_) (fun c5 => ?_)
    · have c5 : x2 = 0 := (i_eq0 hx2).mp c5
      exact J17_6 _ _ _ (fun zq hq => (u_r_X12_needs ⟨z1, ghw3, (Or.inr ⟨c4, (Or.inl ⟨c5, hq⟩)⟩)⟩)) hP hS (lv_sub hl [0, 1, 2] rfl)
    · have c5 : ¬ x2 = 0 := mt (i_eq0 hx2).mpr c5
      refine lv_iload_n hx hb (dk_at dkX12_needs_0 6 rfl) rfl (lv_at hl 2 rfl) ?_
      refine lv_iconst (v := iI 1) hx hb (dk_at dkX12_needs_0 7 rfl) (by decide +kernel) ?_
      refine lv_icmp_ne (tgt := 38) hx hb (dk_at dkX12_needs_0 8 rfl) (by decide) (fun c7 => ?_) (fun c7 => ?_)
      · have c7 : ¬ x2 = 1 := mt (i_eq hx2 ⟨by decide, by decide⟩).mpr c7
        refine lv_iconst (v := iI (-1)) hx hb (dk_at dkX12_needs_1 6 rfl) (by decide +kernel) ?_
        exact RET (-1) _ _ _ _ _ ⟨rfl, (u_r_X12_needs ⟨z1, ghw3, (Or.inr ⟨c4, (Or.inr ⟨c5, (Or.inl ⟨c7, rfl⟩)⟩)⟩)⟩), by omega⟩ hP hS (dk_at dkX12_needs_1 7 rfl)
      · have c7 : x2 = 1 := (i_eq hx2 ⟨by decide, by decide⟩).mp c7
        exact J17_6 _ _ _ (fun zq hq => (u_r_X12_needs ⟨z1, ghw3, (Or.inr ⟨c4, (Or.inr ⟨c5, (Or.inr ⟨c7, hq⟩)⟩)⟩)⟩)) hP hS (lv_sub hl [0, 1, 2] rfl)
theorem dkX12_agrees_0 : dkq cX12_agrees [(0, .aload_n 0, 1), (1, .aload_n 0, 1), (2, .getfield 250, 3), (5, .putfield 256, 3), (8, .iconst 0, 1), (9, .istore_n 1, 1), (10, .iload_n 1, 1), (11, .aload_n 0, 1), (12, .getfield 241, 3), (15, .if_icmp .ge 72, 3), (18, .aload_n 0, 1), (19, .getfield 256, 3), (22, .ifCond .le 27, 3), (25, .aload_n 0, 1), (26, .getfield 253, 3), (29, .aload_n 0, 1)] = true := by decide +kernel
theorem dkX12_agrees_1 : dkq cX12_agrees [(30, .getfield 256, 3), (33, .iconst 1, 1), (34, .isub, 1), (35, .iaload, 1), (36, .aload_n 0, 1), (37, .getfield 244, 3), (40, .iload_n 1, 1), (41, .iaload, 1), (42, .if_icmp .ne 7, 3), (45, .iconst 1, 1), (46, .goto 4, 3), (49, .iconst 0, 1), (50, .istore_n 2, 1), (51, .iload_n 2, 1), (52, .aload_n 0, 1), (53, .getfield 247, 3)] = true := by decide +kernel
theorem dkX12_agrees_2 : dkq cX12_agrees [(56, .iload_n 1, 1), (57, .baload, 1), (58, .if_icmp .eq 5, 3), (61, .iconst 0, 1), (62, .ireturn, 1), (63, .aload_n 0, 1), (64, .dup, 1), (65, .getfield 256, 3), (68, .iload_n 2, 1), (69, .ifCond .eq 7, 3), (72, .iconst 1, 1), (73, .goto 4, 3), (76, .iconst 0, 1), (77, .isub, 1), (78, .putfield 256, 3), (81, .iinc 1 1, 3)] = true := by decide +kernel
theorem dkX12_agrees_3 : dkq cX12_agrees [(84, .goto (-74), 3), (87, .iconst 1, 1), (88, .ireturn, 1)] = true := by decide +kernel
theorem dkX12_isRow_0 : dkq cX12_isRow [(0, .aload_n 0, 1), (1, .iload_n 1, 1), (2, .putfield 250, 3), (5, .iload_n 2, 1), (6, .istore_n 3, 1), (7, .iload_n 1, 1), (8, .iconst 1, 1), (9, .isub, 1), (10, .istore 4, 2), (12, .iload 4, 2), (14, .ifCond .lt 25, 3), (17, .aload_n 0, 1), (18, .getfield 253, 3), (21, .iload 4, 2), (23, .iload_n 3, 1), (24, .bipush 10, 2)] = true := by decide +kernel
theorem dkX12_isRow_1 : dkq cX12_isRow [(26, .irem, 1), (27, .iastore, 1), (28, .iload_n 3, 1), (29, .bipush 10, 2), (31, .idiv, 1), (32, .istore_n 3, 1), (33, .iinc 4 (-1), 3), (36, .goto (-24), 3), (39, .iconst 0, 1), (40, .istore 4, 2), (42, .iload 4, 2), (44, .iload_n 1, 1), (45, .if_icmp .ge 79, 3), (48, .aload_n 0, 1), (49, .aload_n 0, 1), (50, .getfield 253, 3)] = true := by decide +kernel
theorem dkX12_isRow_2 : dkq cX12_isRow [(53, .iload 4, 2), (55, .iaload, 1), (56, .invokevirtual 507, 3), (59, .ifCond .eq 22, 3), (62, .aload_n 0, 1), (63, .getfield 77, 3), (66, .aload_n 0, 1), (67, .aload_n 0, 1), (68, .getfield 253, 3), (71, .iload 4, 2), (73, .iaload, 1), (74, .invokevirtual 487, 3), (77, .baload, 1), (78, .ifCond .ne 5, 3), (81, .iconst 0, 1), (82, .ireturn, 1)] = true := by decide +kernel
theorem dkX12_isRow_3 : dkq cX12_isRow [(83, .iconst 0, 1), (84, .istore 5, 2), (86, .iload 5, 2), (88, .iload 4, 2), (90, .if_icmp .ge 28, 3), (93, .aload_n 0, 1), (94, .getfield 253, 3), (97, .iload 5, 2), (99, .iaload, 1), (100, .aload_n 0, 1), (101, .getfield 253, 3), (104, .iload 4, 2), (106, .iaload, 1), (107, .if_icmp .ne 5, 3), (110, .iconst 0, 1), (111, .ireturn, 1)] = true := by decide +kernel
theorem dkX12_isRow_4 : dkq cX12_isRow [(112, .iinc 5 1, 3), (115, .goto (-29), 3), (118, .iinc 4 1, 3), (121, .goto (-79), 3), (124, .iconst 1, 1), (125, .ireturn, 1)] = true := by decide +kernel
theorem dkX12_fitting_0 : dkq cX12_fitting [(0, .iconst 0, 1), (1, .istore_n 2, 1), (2, .iconst 1, 1), (3, .istore_n 3, 1), (4, .iconst 0, 1), (5, .istore 4, 2), (7, .iload 4, 2), (9, .iconst 3, 1), (10, .if_icmp .gt 82, 3), (13, .iconst 0, 1), (14, .istore 5, 2), (16, .iload 5, 2), (18, .iload_n 3, 1), (19, .if_icmp .ge 62, 3), (22, .iload_n 2, 1), (23, .aload_n 0, 1)] = true := by decide +kernel
theorem dkX12_fitting_1 : dkq cX12_fitting [(24, .iload 4, 2), (26, .iload 5, 2), (28, .invokevirtual 618, 3), (31, .ifCond .eq 41, 3), (34, .aload_n 0, 1), (35, .invokevirtual 621, 3), (38, .ifCond .eq 34, 3), (41, .iload_n 1, 1), (42, .iconst (-1), 1), (43, .if_icmp .eq 25, 3), (46, .aload_n 0, 1), (47, .getfield 256, 3), (50, .ifCond .le 22, 3), (53, .aload_n 0, 1), (54, .getfield 253, 3), (57, .aload_n 0, 1)] = true := by decide +kernel
theorem dkX12_fitting_2 : dkq cX12_fitting [(58, .getfield 256, 3), (61, .iconst 1, 1), (62, .isub, 1), (63, .iaload, 1), (64, .iload_n 1, 1), (65, .if_icmp .ne 7, 3), (68, .iconst 1, 1), (69, .goto 4, 3), (72, .iconst 0, 1), (73, .iadd, 1), (74, .istore_n 2, 1), (75, .iinc 5 1, 3), (78, .goto (-62), 3), (81, .iload_n 3, 1), (82, .bipush 10, 2), (84, .imul, 1)] = true := by decide +kernel
theorem dkX12_fitting_3 : dkq cX12_fitting [(85, .istore_n 3, 1), (86, .iinc 4 1, 3), (89, .goto (-82), 3), (92, .iload_n 2, 1), (93, .ireturn, 1)] = true := by decide +kernel
theorem dkX12_trial_0 : dkq cX12_trial [(0, .aload_n 0, 1), (1, .iload_n 1, 1), (2, .invokevirtual 507, 3), (5, .ifCond .eq 12, 3), (8, .aload_n 0, 1), (9, .getfield 241, 3), (12, .bipush 20, 2), (14, .if_icmp .ne 9, 3), (17, .aload_n 0, 1), (18, .iconst 4, 1), (19, .invokevirtual 271, 3), (22, .ireturn, 1), (23, .aload_n 0, 1), (24, .getfield 244, 3), (27, .aload_n 0, 1), (28, .getfield 241, 3)] = true := by decide +kernel
theorem dkX12_trial_1 : dkq cX12_trial [(31, .iload_n 1, 1), (32, .iastore, 1), (33, .aload_n 0, 1), (34, .getfield 247, 3), (37, .aload_n 0, 1), (38, .getfield 241, 3), (41, .iload_n 2, 1), (42, .bastore, 1), (43, .aload_n 0, 1), (44, .dup, 1), (45, .getfield 241, 3), (48, .iconst 1, 1), (49, .iadd, 1), (50, .putfield 241, 3), (53, .aload_n 0, 1), (54, .iconst (-1), 1)] = true := by decide +kernel
theorem dkX12_trial_2 : dkq cX12_trial [(55, .invokevirtual 624, 3), (58, .ireturn, 1)] = true := by decide +kernel
theorem dkX12_fits_0 : dkq cX12_fits [(0, .iload_n 1, 1), (1, .iconst (-1), 1), (2, .if_icmp .ne 9, 3), (5, .aload_n 0, 1), (6, .iconst (-1), 1), (7, .invokevirtual 624, 3), (10, .ireturn, 1), (11, .iconst 1, 1), (12, .istore_n 2, 1), (13, .iconst 0, 1), (14, .istore_n 3, 1), (15, .iload_n 3, 1), (16, .iconst 3, 1), (17, .if_icmp .gt 68, 3), (20, .iconst 0, 1), (21, .istore 4, 2)] = true := by decide +kernel
theorem dkX12_fits_1 : dkq cX12_fits [(23, .iload 4, 2), (25, .iload_n 2, 1), (26, .if_icmp .ge 48, 3), (29, .aload_n 0, 1), (30, .iload_n 3, 1), (31, .iload 4, 2), (33, .invokevirtual 618, 3), (36, .ifCond .eq 32, 3), (39, .aload_n 0, 1), (40, .invokevirtual 621, 3), (43, .ifCond .eq 25, 3), (46, .iload_n 1, 1), (47, .iconst 0, 1), (48, .iload_n 3, 1), (49, .iconst 1, 1), (50, .isub, 1)] = true := by decide +kernel
theorem dkX12_fits_2 : dkq cX12_fits [(51, .invokestatic 352, 3), (54, .ifCond .eq 12, 3), (57, .aload_n 0, 1), (58, .getfield 253, 3), (61, .iload_n 1, 1), (62, .iaload, 1), (63, .goto 4, 3), (66, .iconst (-1), 1), (67, .ireturn, 1), (68, .iinc 4 1, 3), (71, .goto (-48), 3), (74, .iload_n 2, 1), (75, .bipush 10, 2), (77, .imul, 1), (78, .istore_n 2, 1), (79, .iinc 3 1, 3)] = true := by decide +kernel
theorem dkX12_fits_3 : dkq cX12_fits [(82, .goto (-67), 3), (85, .iconst (-1), 1), (86, .ireturn, 1)] = true := by decide +kernel
theorem dkX12_would_0 : dkq cX12_would [(0, .aload_n 0, 1), (1, .iload_n 1, 1), (2, .invokevirtual 507, 3), (5, .ifCond .eq 11, 3), (8, .aload_n 0, 1), (9, .iload_n 1, 1), (10, .invokevirtual 624, 3), (13, .goto 4, 3), (16, .iconst (-1), 1), (17, .ireturn, 1)] = true := by decide +kernel
theorem dkX12_unsay_0 : dkq cX12_unsay [(0, .aload_n 0, 1), (1, .getfield 241, 3), (4, .ifCond .ne 9, 3), (7, .aload_n 0, 1), (8, .iconst 4, 1), (9, .invokevirtual 271, 3), (12, .ireturn, 1), (13, .aload_n 0, 1), (14, .dup, 1), (15, .getfield 241, 3), (18, .iconst 1, 1), (19, .isub, 1), (20, .putfield 241, 3), (23, .aload_n 0, 1), (24, .getfield 241, 3), (27, .ireturn, 1)] = true := by decide +kernel
theorem dkX12_ways_0 : dkq cX12_ways [(0, .iconst 0, 1), (1, .istore_n 1, 1), (2, .iload_n 1, 1), (3, .bipush 64, 2), (5, .if_icmp .ge 33, 3), (8, .aload_n 0, 1), (9, .getfield 259, 3), (12, .iload_n 1, 1), (13, .iload_n 1, 1), (14, .bipush 8, 2), (16, .idiv, 1), (17, .iload_n 1, 1), (18, .bipush 8, 2), (20, .irem, 1), (21, .if_icmp .ne 7, 3), (24, .iconst 0, 1)] = true := by decide +kernel
theorem dkX12_ways_1 : dkq cX12_ways [(25, .goto 6, 3), (28, .ldc_w 627, 3), (31, .iastore, 1), (32, .iinc 1 1, 3), (35, .goto (-33), 3), (38, .iconst 0, 1), (39, .istore_n 1, 1), (40, .iload_n 1, 1), (41, .aload_n 0, 1), (42, .getfield 58, 3), (45, .aload_n 0, 1), (46, .getfield 48, 3), (49, .iaload, 1), (50, .if_icmp .ge 124, 3), (53, .aload_n 0, 1), (54, .getfield 70, 3)] = true := by decide +kernel
theorem dkX12_ways_2 : dkq cX12_ways [(57, .aload_n 0, 1), (58, .iload_n 1, 1), (59, .invokevirtual 487, 3), (62, .baload, 1), (63, .ifCond .ne 105, 3), (66, .aload_n 0, 1), (67, .iload_n 1, 1), (68, .invokevirtual 493, 3), (71, .ifCond .eq 6, 3), (74, .goto 94, 3), (77, .aload_n 0, 1), (78, .getfield 64, 3), (81, .aload_n 0, 1), (82, .iload_n 1, 1), (83, .invokevirtual 487, 3), (86, .iaload, 1)] = true := by decide +kernel
theorem dkX12_ways_3 : dkq cX12_ways [(87, .istore_n 2, 1), (88, .aload_n 0, 1), (89, .getfield 67, 3), (92, .aload_n 0, 1), (93, .iload_n 1, 1), (94, .invokevirtual 487, 3), (97, .iaload, 1), (98, .istore_n 3, 1), (99, .aload_n 0, 1), (100, .getfield 74, 3), (103, .aload_n 0, 1), (104, .iload_n 1, 1), (105, .invokevirtual 487, 3), (108, .iaload, 1), (109, .aload_n 0, 1), (110, .getfield 259, 3)] = true := by decide +kernel
theorem dkX12_ways_4 : dkq cX12_ways [(113, .bipush 8, 2), (115, .iload_n 2, 1), (116, .imul, 1), (117, .iload_n 3, 1), (118, .iadd, 1), (119, .iaload, 1), (120, .if_icmp .lt 6, 3), (123, .goto 45, 3), (126, .aload_n 0, 1), (127, .getfield 259, 3), (130, .bipush 8, 2), (132, .iload_n 2, 1), (133, .imul, 1), (134, .iload_n 3, 1), (135, .iadd, 1), (136, .aload_n 0, 1)] = true := by decide +kernel
theorem dkX12_ways_5 : dkq cX12_ways [(137, .getfield 74, 3), (140, .aload_n 0, 1), (141, .iload_n 1, 1), (142, .invokevirtual 487, 3), (145, .iaload, 1), (146, .iastore, 1), (147, .aload_n 0, 1), (148, .getfield 259, 3), (151, .bipush 8, 2), (153, .iload_n 3, 1), (154, .imul, 1), (155, .iload_n 2, 1), (156, .iadd, 1), (157, .aload_n 0, 1), (158, .getfield 74, 3), (161, .aload_n 0, 1)] = true := by decide +kernel
theorem dkX12_ways_6 : dkq cX12_ways [(162, .iload_n 1, 1), (163, .invokevirtual 487, 3), (166, .iaload, 1), (167, .iastore, 1), (168, .iinc 1 1, 3), (171, .goto (-131), 3), (174, .iconst 0, 1), (175, .istore_n 1, 1), (176, .iload_n 1, 1), (177, .bipush 8, 2), (179, .if_icmp .ge 79, 3), (182, .iconst 0, 1), (183, .istore_n 2, 1), (184, .iload_n 2, 1), (185, .bipush 64, 2), (187, .if_icmp .ge 65, 3)] = true := by decide +kernel
theorem dkX12_ways_7 : dkq cX12_ways [(190, .aload_n 0, 1), (191, .getfield 259, 3), (194, .iload_n 2, 1), (195, .bipush 8, 2), (197, .idiv, 1), (198, .bipush 8, 2), (200, .imul, 1), (201, .iload_n 1, 1), (202, .iadd, 1), (203, .iaload, 1), (204, .aload_n 0, 1), (205, .getfield 259, 3), (208, .bipush 8, 2), (210, .iload_n 1, 1), (211, .imul, 1), (212, .iload_n 2, 1)] = true := by decide +kernel
theorem dkX12_ways_8 : dkq cX12_ways [(213, .bipush 8, 2), (215, .irem, 1), (216, .iadd, 1), (217, .iaload, 1), (218, .iadd, 1), (219, .istore_n 3, 1), (220, .aload_n 0, 1), (221, .getfield 259, 3), (224, .iload_n 2, 1), (225, .iload_n 3, 1), (226, .aload_n 0, 1), (227, .getfield 259, 3), (230, .iload_n 2, 1), (231, .iaload, 1), (232, .if_icmp .ge 7, 3), (235, .iload_n 3, 1)] = true := by decide +kernel
theorem dkX12_ways_9 : dkq cX12_ways [(236, .goto 9, 3), (239, .aload_n 0, 1), (240, .getfield 259, 3), (243, .iload_n 2, 1), (244, .iaload, 1), (245, .iastore, 1), (246, .iinc 2 1, 3), (249, .goto (-65), 3), (252, .iinc 1 1, 3), (255, .goto (-79), 3), (258, .return_, 1)] = true := by decide +kernel
theorem dkX12_round_0 : dkq cX12_round [(0, .aload_n 0, 1), (1, .iload_n 1, 1), (2, .invokevirtual 539, 3), (5, .ifCond .ne 5, 3), (8, .iconst (-1), 1), (9, .ireturn, 1), (10, .aload_n 0, 1), (11, .invokevirtual 628, 3), (14, .aload_n 0, 1), (15, .iload_n 1, 1), (16, .invokevirtual 520, 3), (19, .istore_n 3, 1), (20, .iload_n 2, 1), (21, .iconst 1, 1), (22, .aload_n 0, 1), (23, .getfield 51, 3)] = true := by decide +kernel
theorem dkX12_round_1 : dkq cX12_round [(26, .aload_n 0, 1), (27, .getfield 48, 3), (30, .iaload, 1), (31, .ishl, 1), (32, .iconst 1, 1), (33, .isub, 1), (34, .iand, 1), (35, .istore 4, 2), (37, .iconst 0, 1), (38, .istore 5, 2), (40, .iload 5, 2), (42, .sipush 2048, 3), (45, .if_icmp .ge 19, 3), (48, .aload_n 0, 1), (49, .getfield 262, 3), (52, .iload 5, 2)] = true := by decide +kernel
theorem dkX12_round_2 : dkq cX12_round [(54, .ldc_w 627, 3), (57, .iastore, 1), (58, .iinc 5 1, 3), (61, .goto (-21), 3), (64, .aload_n 0, 1), (65, .getfield 262, 3), (68, .bipush 8, 2), (70, .iconst 1, 1), (71, .iload_n 3, 1), (72, .ishl, 1), (73, .imul, 1), (74, .iload_n 3, 1), (75, .iadd, 1), (76, .iconst 0, 1), (77, .iastore, 1), (78, .ldc_w 627, 3)] = true := by decide +kernel
theorem dkX12_round_3 : dkq cX12_round [(81, .istore 5, 2), (83, .iconst 0, 1), (84, .istore 6, 2), (86, .iload 6, 2), (88, .sipush 256, 3), (91, .if_icmp .ge 188, 3), (94, .iconst 0, 1), (95, .istore 7, 2), (97, .iload 7, 2), (99, .bipush 8, 2), (101, .if_icmp .ge 172, 3), (104, .aload_n 0, 1), (105, .getfield 262, 3), (108, .bipush 8, 2), (110, .iload 6, 2), (112, .imul, 1)] = true := by decide +kernel
theorem dkX12_round_4 : dkq cX12_round [(113, .iload 7, 2), (115, .iadd, 1), (116, .iaload, 1), (117, .istore 8, 2), (119, .iload 8, 2), (121, .ldc_w 627, 3), (124, .if_icmp .lt 6, 3), (127, .goto 140, 3), (130, .iload 6, 2), (132, .iload 4, 2), (134, .iand, 1), (135, .iload 4, 2), (137, .if_icmp .ne 40, 3), (140, .iload 8, 2), (142, .aload_n 0, 1), (143, .getfield 259, 3)] = true := by decide +kernel
theorem dkX12_round_5 : dkq cX12_round [(146, .bipush 8, 2), (148, .iload 7, 2), (150, .imul, 1), (151, .iload_n 3, 1), (152, .iadd, 1), (153, .iaload, 1), (154, .iadd, 1), (155, .iload 5, 2), (157, .if_icmp .ge 20, 3), (160, .iload 8, 2), (162, .aload_n 0, 1), (163, .getfield 259, 3), (166, .bipush 8, 2), (168, .iload 7, 2), (170, .imul, 1), (171, .iload_n 3, 1)] = true := by decide +kernel
theorem dkX12_round_6 : dkq cX12_round [(172, .iadd, 1), (173, .iaload, 1), (174, .iadd, 1), (175, .istore 5, 2), (177, .iconst 0, 1), (178, .istore 9, 2), (180, .iload 9, 2), (182, .bipush 8, 2), (184, .if_icmp .ge 83, 3), (187, .bipush 8, 2), (189, .iload 6, 2), (191, .iconst 1, 1), (192, .iload 9, 2), (194, .ishl, 1), (195, .ior, 1), (196, .imul, 1)] = true := by decide +kernel
theorem dkX12_round_7 : dkq cX12_round [(197, .iload 9, 2), (199, .iadd, 1), (200, .istore 10, 2), (202, .iload 6, 2), (204, .iload 9, 2), (206, .ishr, 1), (207, .iconst 1, 1), (208, .iand, 1), (209, .ifCond .ne 52, 3), (212, .iload 8, 2), (214, .aload_n 0, 1), (215, .getfield 259, 3), (218, .bipush 8, 2), (220, .iload 7, 2), (222, .imul, 1), (223, .iload 9, 2)] = true := by decide +kernel
theorem dkX12_round_8 : dkq cX12_round [(225, .iadd, 1), (226, .iaload, 1), (227, .iadd, 1), (228, .aload_n 0, 1), (229, .getfield 262, 3), (232, .iload 10, 2), (234, .iaload, 1), (235, .if_icmp .ge 26, 3), (238, .aload_n 0, 1), (239, .getfield 262, 3), (242, .iload 10, 2), (244, .iload 8, 2), (246, .aload_n 0, 1), (247, .getfield 259, 3), (250, .bipush 8, 2), (252, .iload 7, 2)] = true := by decide +kernel
theorem dkX12_round_9 : dkq cX12_round [(254, .imul, 1), (255, .iload 9, 2), (257, .iadd, 1), (258, .iaload, 1), (259, .iadd, 1), (260, .iastore, 1), (261, .iinc 9 1, 3), (264, .goto (-84), 3), (267, .iinc 7 1, 3), (270, .goto (-173), 3), (273, .iinc 6 1, 3), (276, .goto (-190), 3), (279, .iload 5, 2), (281, .ldc_w 627, 3), (284, .if_icmp .lt 7, 3), (287, .iconst (-1), 1)] = true := by decide +kernel
theorem dkX12_round_10 : dkq cX12_round [(288, .goto 5, 3), (291, .iload 5, 2), (293, .ireturn, 1)] = true := by decide +kernel
