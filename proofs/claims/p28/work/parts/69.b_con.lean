abbrev tr_d_X12_wanting_7 (z15 : Int) (A : St) (A64 : St) (u : St) : Prop := (∃ z90 : Int, ∃ A91 : St, q_X12_asked_4 4 A64 z90 A91 ∧ (∃ A95 : St, A95 = (stA A91 24 (6 * (A 0 47) + z15).toNat z90) ∧ (((¬ (A91 0 8) = 0) ∧ (u = A95)) ∨ (((A91 0 8) = 0) ∧ (∃ z97 : Int, z97 = A95 22 ((A 0 47)).toNat ∧ (∃ A101 : St, A101 = (stA A95 22 ((A 0 47)).toNat (z97 + 1)) ∧ (u = A101)))))))
def d_X12_wanting_7 (z15 : Int) (A : St) (A64 : St) (u : St) : Prop := tr_d_X12_wanting_7 z15 A A64 u
theorem u_d_X12_wanting_7 {z15 : Int} {A : St} {A64 : St} {u : St} (h : tr_d_X12_wanting_7 z15 A A64 u) : d_X12_wanting_7 z15 A A64 u := h
abbrev tr_d_X12_wanting_6 (K5 : Int → St → Prop) (z62 : Int) (u : St) (A86 : St) : Prop := ((IM A86) ∧ (K5 (z62 + 1) A86))
def d_X12_wanting_6 (K5 : Int → St → Prop) (z62 : Int) (u : St) (A86 : St) : Prop := tr_d_X12_wanting_6 K5 z62 u A86
theorem u_d_X12_wanting_6 {K5 : Int → St → Prop} {z62 : Int} {u : St} {A86 : St} (h : tr_d_X12_wanting_6 K5 z62 u A86) : d_X12_wanting_6 K5 z62 u A86 := h
abbrev tr_d_X12_wanting_5 (z15 : Int) (A : St) (u : St) (K5 : Int → St → Prop) (z62 : Int) (A64 : St) : Prop := ((IM A64) ∧ ((0 ≤ z62 ∧ z62 ≤ 12) ∧ (((6 * (A 0 47) + z15 ≤ z62) ∧ (d_X12_wanting_7 z15 A A64 u)) ∨ ((¬ 6 * (A 0 47) + z15 ≤ z62) ∧ (((¬ (A64 0 8) = 0) ∧ (d_X12_wanting_7 z15 A A64 u)) ∨ (((A64 0 8) = 0) ∧ (∃ z77 : Int, z77 = A64 23 (z62).toNat ∧ (∃ z78 : Int, z78 = A64 23 (6 * (A 0 47) + z15).toNat ∧ (((¬ z77 = z78) ∧ (d_X12_wanting_6 K5 z62 u A64)) ∨ ((z77 = z78) ∧ (∃ z81 : Int, z81 = A64 24 (z62).toNat ∧ (∃ A82 : St, q_X12_bars 4 z81 A64 A82 ∧ (d_X12_wanting_6 K5 z62 u A82)))))))))))))
def d_X12_wanting_5 (z15 : Int) (A : St) (u : St) : Nat → Int → St → Prop
  | 0, _, _ => False
  | nn9 + 1, z62, A64 => tr_d_X12_wanting_5 z15 A u (fun z62 A64 => d_X12_wanting_5 z15 A u nn9 z62 A64) z62 A64
theorem u_d_X12_wanting_5 {z15 : Int} {A : St} {u : St} {nn9 : Nat} {z62 : Int} {A64 : St} (h : tr_d_X12_wanting_5 z15 A u (fun z62 A64 => d_X12_wanting_5 z15 A u nn9 z62 A64) z62 A64) : d_X12_wanting_5 z15 A u (nn9 + 1) z62 A64 := h
abbrev tr_d_X12_wanting_4 (z15 : Int) (A : St) (u : St) (A52 : St) : Prop := ((IM A52) ∧ (∃ z55 : Int, ∃ A56 : St, q_X12_asked_3 3 A52 z55 A56 ∧ (∃ A60 : St, A60 = (stA A56 23 (6 * (A 0 47) + z15).toNat z55) ∧ (∃ nn9 : Nat, d_X12_wanting_5 z15 A u nn9 (6 * (A 0 47)) A60))))
def d_X12_wanting_4 (z15 : Int) (A : St) (u : St) (A52 : St) : Prop := tr_d_X12_wanting_4 z15 A u A52
theorem u_d_X12_wanting_4 {z15 : Int} {A : St} {u : St} {A52 : St} (h : tr_d_X12_wanting_4 z15 A u A52) : d_X12_wanting_4 z15 A u A52 := h
abbrev tr_d_X12_wanting_8 (K3 : Int → Int → Prop) (z30 : Int) (z31 : Int) (u : St) (z106 : Int) : Prop := ((0 ≤ z106 ∧ z106 ≤ 1) ∧ (K3 (z30 + 1) (z31 + z106)))
def d_X12_wanting_8 (K3 : Int → Int → Prop) (z30 : Int) (z31 : Int) (u : St) (z106 : Int) : Prop := tr_d_X12_wanting_8 K3 z30 z31 u z106
theorem u_d_X12_wanting_8 {K3 : Int → Int → Prop} {z30 : Int} {z31 : Int} {u : St} {z106 : Int} (h : tr_d_X12_wanting_8 K3 z30 z31 u z106) : d_X12_wanting_8 K3 z30 z31 u z106 := h
abbrev tr_d_X12_wanting_3 (z15 : Int) (z26 : Int) (A : St) (A10 : St) (u : St) (K3 : Int → Int → Prop) (z30 : Int) (z31 : Int) : Prop := ((0 ≤ z30 ∧ z30 ≤ 12) ∧ ((0 ≤ z31 ∧ z31 ≤ 6) ∧ (((6 * (A 0 47) + z15 ≤ z30) ∧ (((z26 = (-1)) ∧ (d_X12_wanting_4 z15 A u A10)) ∨ ((¬ z26 = (-1)) ∧ (((¬ z31 = 2) ∧ (d_X12_wanting_4 z15 A u A10)) ∨ ((z31 = 2) ∧ (∃ A48 : St, q_X12_blame 3 (A10 0 4) A10 A48 ∧ (d_X12_wanting_4 z15 A u A48))))))) ∨ ((¬ 6 * (A 0 47) + z15 ≤ z30) ∧ (∃ z103 : Int, z103 = A10 23 (z30).toNat ∧ (((¬ z103 = z26) ∧ (d_X12_wanting_8 K3 z30 z31 u 0)) ∨ ((z103 = z26) ∧ (d_X12_wanting_8 K3 z30 z31 u 1))))))))
def d_X12_wanting_3 (z15 : Int) (z26 : Int) (A : St) (A10 : St) (u : St) : Nat → Int → Int → Prop
  | 0, _, _ => False
  | nn9 + 1, z30, z31 => tr_d_X12_wanting_3 z15 z26 A A10 u (fun z30 z31 => d_X12_wanting_3 z15 z26 A A10 u nn9 z30 z31) z30 z31
theorem u_d_X12_wanting_3 {z15 : Int} {z26 : Int} {A : St} {A10 : St} {u : St} {nn9 : Nat} {z30 : Int} {z31 : Int} (h : tr_d_X12_wanting_3 z15 z26 A A10 u (fun z30 z31 => d_X12_wanting_3 z15 z26 A A10 u nn9 z30 z31) z30 z31) : d_X12_wanting_3 z15 z26 A A10 u (nn9 + 1) z30 z31 := h
abbrev tr_d_X12_wanting_2 (z15 : Int) (A : St) (A10 : St) (u : St) (z26 : Int) : Prop := ((-1 ≤ z26 ∧ z26 ≤ 2) ∧ (∃ nn9 : Nat, d_X12_wanting_3 z15 z26 A A10 u nn9 (6 * (A 0 47)) 0))
def d_X12_wanting_2 (z15 : Int) (A : St) (A10 : St) (u : St) (z26 : Int) : Prop := tr_d_X12_wanting_2 z15 A A10 u z26
theorem u_d_X12_wanting_2 {z15 : Int} {A : St} {A10 : St} {u : St} {z26 : Int} (h : tr_d_X12_wanting_2 z15 A A10 u z26) : d_X12_wanting_2 z15 A A10 u z26 := h
abbrev tr_d_X12_wanting_1 (A : St) (u : St) (z4 : Int) : Prop := ((0 ≤ z4 ∧ z4 ≤ 1) ∧ (∃ z9 : Int, ∃ A10 : St, q_X12_counts z4 A z9 A10 ∧ (((¬ z9 = 0) ∧ (∃ z15 : Int, z15 = A10 22 ((A 0 47)).toNat ∧ (((¬ (A10 0 8) = 0) ∧ (d_X12_wanting_2 z15 A A10 u (-1))) ∨ (((A10 0 8) = 0) ∧ (((¬ (A10 0 3) = 1) ∧ (d_X12_wanting_2 z15 A A10 u (-1))) ∨ (((A10 0 3) = 1) ∧ (∃ z19 : Int, q_X12_isOwn (A10 0 7) A10 z19 ∧ (((¬ z19 = 0) ∧ (d_X12_wanting_2 z15 A A10 u (-1))) ∨ ((z19 = 0) ∧ (∃ z23 : Int, q_X12_named_3 3 (A10 0 7) A10 z23 ∧ (d_X12_wanting_2 z15 A A10 u z23))))))))))) ∨ ((z9 = 0) ∧ (u = A10)))))
def d_X12_wanting_1 (A : St) (u : St) (z4 : Int) : Prop := tr_d_X12_wanting_1 A u z4
theorem u_d_X12_wanting_1 {A : St} {u : St} {z4 : Int} (h : tr_d_X12_wanting_1 A u z4) : d_X12_wanting_1 A u z4 := h
abbrev tr_r_X12_wanting (A : St) (u : St) : Prop := (∃ z1 : Int, z1 = A 22 ((A 0 47)).toNat ∧ (((¬ z1 = 6) ∧ (d_X12_wanting_1 A u 0)) ∨ ((z1 = 6) ∧ (d_X12_wanting_1 A u 1))))
def r_X12_wanting (A : St) (u : St) : Prop := tr_r_X12_wanting A u
theorem u_r_X12_wanting {A : St} {u : St} (h : tr_r_X12_wanting A u) : r_X12_wanting A u := h
def q_X12_wanting (A : St) (u : St) : Prop := r_X12_wanting A u ∧ IM u ∧ fr [22, 23, 24] [3, 4, 5, 6, 7, 8, 9] A u ∧ CB u ∧ WI u ∧ ((u 0 8 = 0 → A 0 5 ≤ u 0 4) ∧ A 0 4 ≤ u 0 4)
def ws_mb_X12_wanting : List Cond := .code yX12_wanting cX12_wanting 5 none :: WX
set_option maxHeartbeats 4000000 in
set_option maxRecDepth 100000 in
theorem mb_X12_wanting (l : Launch) (dC : Nat → ClassId) (dI : Nat → Nat → Nat) (cB cI cJ cZ cQ : ClassId) (q : Nat → Nat) (A : St) (hI : IM A) (hcCB : CB A) (hcWI : WI A) : XMv l yX12_wanting ws_mb_X12_wanting ({ frames := 3, cells := 0, slots := 0, locals := 70 } : Room) (dC, dI) (tyA cB cI cJ cZ cQ) (WM cI cJ cZ q) A [.ref (q 0)] (fun u => r_X12_wanting A u ∧ IM u ∧ fr [22, 23, 24] [3, 4, 5, 6, 7, 8, 9] A u ∧ CB u ∧ WI u ∧ ((u 0 8 = 0 → A 0 5 ≤ u 0 4) ∧ A 0 4 ≤ u 0 4)) := by
  refine x_metv (cc := cX12_wanting) (maxL := 5) WM_adr (by decide +kernel) rfl (Nat.le_of_ble_eq_true rfl) (fun p e s m below meth c Q AS ls hx hb hml hown hts hK hDD hA0 hP hS hl RET => ?_)
  have hown : s.vm.findClass RX12 = some m.cls := hown
  have hl : lv_has ls 5 [(0, .ref (q 0))] := hl
  have hiX12 : ∀ w ∈ u_ws RX12 TX12 85, w ∈ ws_mb_X12_wanting := fun w h => List.mem_cons_of_mem _ (wx_lay w h)
  obtain ⟨H, hHe⟩ : ∃ H : Heap, H = s.heap := ⟨_, rfl⟩
  rw [← hHe] at hP
  have hS : va_S AS s.heap H [] := by rw [hHe]; exact hS
  suffices hgo : ∀ locs : List Loc, va_S AS s.heap H locs → W p l e (headSpec ws_mb_X12_wanting ({ frames := 3, cells := 0, slots := 0, locals := 70 } : Room)).room s m [.ref (q 0)].toArray below meth c H locs 0 0 Q (F0 m 0 ls []) by
    have := hgo [] hS
    rw [hHe] at this
    exact this
  clear hS hHe
  intro locs hS
  have hle := CB.le hcCB
  refine lv_aload_n hx hb (dk_at dkX12_wanting_0 0 rfl) rfl (lv_at hl 0 rfl) ?_
  refine lv_aload_n hx hb (dk_at dkX12_wanting_0 1 rfl) rfl (lv_at hl 0 rfl) ?_
  refine va_get (D := (dC, dI)) (ci := 12) (v := .ref (q 22)) (C := RX12) (T := TX12) (N := 85) hx hb hts hiX12 hown hK hP 0 wm0 rfl 33 (by decide) (hts _ (List.mem_cons_of_mem _ wlq_3_16)) (fun _ h9 => h9) rfl (dk_at dkX12_wanting_0 2 rfl) ?_
  refine lv_aload_n hx hb (dk_at dkX12_wanting_0 3 rfl) rfl (lv_at hl 0 rfl) ?_
  refine va_get (D := (dC, dI)) (ci := 12) (v := .int (iI (A 0 47))) (C := RX12) (T := TX12) (N := 85) hx hb hts hiX12 hown hK hP 0 wm0 rfl 47 (by decide) (hts _ (List.mem_cons_of_mem _ wlq_1_12)) (fun _ h9 => h9) rfl (dk_at dkX12_wanting_0 4 rfl) ?_
  have r_A_0_47 : (0 : Int) ≤ (A 0 47) ∧ (A 0 47) ≤ 1 := hI 0 47
  refine x_iald hx hb hK hP 22 1 wm22 rfl (by omega) (by decide) (dk_at dkX12_wanting_0 5 rfl) (fun z1 hz1 => ?_)
  have rz1 : (0 : Int) ≤ z1 ∧ z1 ≤ 6 := by rw [hz1]; exact hI 22 _
  have gz1 := Hd.mk hz1
  have hz1 : z1 = A 22 ((A 0 47)).toNat := hz1
  refine lv_bipush (v := iI 6) hx hb (dk_at dkX12_wanting_0 6 rfl) (by decide +kernel) ?_
  have J20_3 : ∀ (z4 : Int) (H : Heap) (locs : List Loc) (ls : Array Slot), (0 ≤ z4 ∧ z4 ≤ 1) → ((z4 = 0 ∧ ¬ z1 = 6) ∨ (z4 = 1 ∧ z1 = 6)) → (Hd ((z4 = 1 ∧ A 22 (A 0 47).toNat = 6) ∨ (z4 = 0 ∧ ¬ A 22 (A 0 47).toNat = 6))) → (∀ (u : St), (d_X12_wanting_1 A u z4) → r_X12_wanting A u) → va_P (dC, dI) vwCl (WM cI cJ cZ q A) H → va_S AS s.heap H locs → lv_has ls 5 [(0, .ref (q 0))] → W p l e (headSpec ws_mb_X12_wanting ({ frames := 3, cells := 0, slots := 0, locals := 70 } : Room)).room s m [.ref (q 0)].toArray below meth c H locs 0 0 Q (F0 m 20 ls [.int (iI z4), .ref (q 0)]) := by
    intro z4 H locs ls f6 f7 f8 hk1 hP hS hl
    have r_A_0_4 : (0 : Int) ≤ (A 0 4) ∧ (A 0 4) ≤ 1600 := hI 0 4
    have r_A_0_5 : (0 : Int) ≤ (A 0 5) ∧ (A 0 5) ≤ 1600 := hI 0 5
    refine x_calli (As := [.int (iI z4)]) (rest := []) ⟨hx, hb, hml, hown, hts⟩ (mb_X12_counts l dC dI cB cI cJ cZ cQ q _ z4 hI f6 hcCB) (cwV 1 hts (goodV wlq_2_32 wlq_2_33 wlq_2_34 wlq_0_8 wlq_2_20) rfl rfl rfl (by decide +kernel) ⟨Nat.le_of_ble_eq_true rfl, Nat.le_of_ble_eq_true rfl⟩) hK hDD hA0 hP hS 0 12 wm0 rfl rfl hl.1 (Nat.le_of_ble_eq_true rfl) (dk_at dkX12_wanting_0 11 rfl) (fun z9 A10 H locs hw11 hP hS => ?_)
    have ghw11 : q_X12_counts z4 A z9 A10 := hw11
    obtain ⟨_, hI, hf12, hw11⟩ := hw11
    obtain ⟨hc13, hw11⟩ := hw11
    have r_A10_0_4 : (0 : Int) ≤ (A10 0 4) ∧ (A10 0 4) ≤ 1600 := hI 0 4
    have r_A10_0_8 : (0 : Int) ≤ (A10 0 8) ∧ (A10 0 8) ≤ 5 := hI 0 8
    have rz9 : 0 ≤ z9 ∧ z9 ≤ 1 := hw11.1
    refine lv_if_ne (tgt := 27) hx hb (dk_at dkX12_wanting_0 12 rfl) (by decide) (fun c14 => ?_) (fun c14 => ?_)
    · have c14 : ¬ z9 = 0 := mt (i_eq0 (rb rz9 (by decide) (by decide))).mpr c14
      refine lv_bipush (v := iI 6) hx hb (dk_at dkX12_wanting_0 14 rfl) (by decide +kernel) ?_
      refine lv_aload_n hx hb (dk_at dkX12_wanting_0 15 rfl) rfl (lv_at hl 0 rfl) ?_
      have e_A10_47 : A10 0 47 = (A 0 47) := (hf12.2 47 rfl)
      refine va_get (D := (dC, dI)) (ci := 12) (v := .int (iI (A10 0 47))) (C := RX12) (T := TX12) (N := 85) hx hb hts hiX12 hown hK hP 0 wm0 rfl 47 (by decide) (hts _ (List.mem_cons_of_mem _ wlq_1_12)) (fun _ h9 => h9) rfl (dk_at dkX12_wanting_1 0 rfl) ?_
      refine tp_i (y := iI (A 0 47)) (congrArg iI e_A10_47) ?_
      refine x_mulv (v := 6 * (A 0 47)) hx hb (dk_at dkX12_wanting_1 1 rfl) (by omega) ?_
      refine lv_aload_n hx hb (dk_at dkX12_wanting_1 2 rfl) rfl (lv_at hl 0 rfl) ?_
      refine va_get (D := (dC, dI)) (ci := 12) (v := .ref (q 22)) (C := RX12) (T := TX12) (N := 85) hx hb hts hiX12 hown hK hP 0 wm0 rfl 33 (by decide) (hts _ (List.mem_cons_of_mem _ wlq_3_16)) (fun _ h9 => h9) rfl (dk_at dkX12_wanting_1 3 rfl) ?_
      refine lv_aload_n hx hb (dk_at dkX12_wanting_1 4 rfl) rfl (lv_at hl 0 rfl) ?_
      refine va_get (D := (dC, dI)) (ci := 12) (v := .int (iI (A10 0 47))) (C := RX12) (T := TX12) (N := 85) hx hb hts hiX12 hown hK hP 0 wm0 rfl 47 (by decide) (hts _ (List.mem_cons_of_mem _ wlq_1_12)) (fun _ h9 => h9) rfl (dk_at dkX12_wanting_1 5 rfl) ?_
      refine tp_i (y := iI (A 0 47)) (congrArg iI e_A10_47) ?_
      have a_A10_22 : A10 22 = A 22 := (hf12.1 22 (by decide) rfl)
      refine x_iald hx hb hK hP 22 1 wm22 rfl (by omega) (by decide) (dk_at dkX12_wanting_1 6 rfl) (fun z15 hz15 => ?_)
      have rz15 : (0 : Int) ≤ z15 ∧ z15 ≤ 6 := by rw [hz15]; exact hI 22 _
      have gz15 := Hd.mk hz15
      have hz15 : z15 = A 22 ((A 0 47)).toNat := hz15.trans (congrFun a_A10_22 _)
      have ez15 : z15 = z1 := hz15.trans hz1.symm
      refine x_addv (v := 6 * (A 0 47) + z15) hx hb (dk_at dkX12_wanting_1 7 rfl) (by omega) ?_
      refine lv_istore_n (lv' := [(1, .int (iI (6 * (A 0 47) + z15))), (0, .ref (q 0))]) hx hb (dk_at dkX12_wanting_1 8 rfl) rfl hl (by decide) rfl (fun ls hl => ?_)
      refine lv_aload_n hx hb (dk_at dkX12_wanting_1 9 rfl) rfl (lv_at hl 1 rfl) ?_
      refine va_get (D := (dC, dI)) (ci := 12) (v := .int (iI (A10 0 8))) (C := RX12) (T := TX12) (N := 85) hx hb hts hiX12 hown hK hP 0 wm0 rfl 8 (by decide) (hts _ (List.mem_cons_of_mem _ wlq_0_16)) (fun _ h9 => h9) rfl (dk_at dkX12_wanting_1 10 rfl) ?_
      have J84_17 : ∀ (z26 : Int) (H : Heap) (locs : List Loc) (ls : Array Slot), (-1 ≤ z26 ∧ z26 ≤ 2) → (Hd ((A10 0 8) = 0 → (A10 0 3) = 1 → ownz (A10 0 7) = 0 → z26 = lk (A 17) (3 * A 0 47).toNat (A10 0 7) (A 16 (A 0 47).toNat).toNat)) → (∀ (u : St), (d_X12_wanting_2 z15 A A10 u z26) → r_X12_wanting A u) → va_P (dC, dI) vwCl (WM cI cJ cZ q A10) H → va_S AS s.heap H locs → lv_has ls 5 [(1, .int (iI (6 * (A 0 47) + z15))), (0, .ref (q 0))] → W p l e (headSpec ws_mb_X12_wanting ({ frames := 3, cells := 0, slots := 0, locals := 70 } : Room)).room s m [.ref (q 0)].toArray below meth c H locs 0 0 Q (F0 m 84 ls [.int (iI z26)]) := by
        intro z26 H locs ls f28 f29 hk2 hP hS hl
        refine lv_istore_n (lv' := [(2, .int (iI z26)), (1, .int (iI (6 * (A 0 47) + z15))), (0, .ref (q 0))]) hx hb (dk_at dkX12_wanting_2 12 rfl) rfl hl (by decide) rfl (fun ls hl => ?_)
        refine lv_iconst (v := iI 0) hx hb (dk_at dkX12_wanting_2 13 rfl) (by decide +kernel) ?_
        refine lv_istore_n (lv' := [(3, .int (iI 0)), (2, .int (iI z26)), (1, .int (iI (6 * (A 0 47) + z15))), (0, .ref (q 0))]) hx hb (dk_at dkX12_wanting_2 14 rfl) rfl hl (by decide) rfl (fun ls hl => ?_)
        refine lv_bipush (v := iI 6) hx hb (dk_at dkX12_wanting_2 15 rfl) (by decide +kernel) ?_
        refine lv_aload_n hx hb (dk_at dkX12_wanting_3 0 rfl) rfl (lv_at hl 3 rfl) ?_
        refine va_get (D := (dC, dI)) (ci := 12) (v := .int (iI (A10 0 47))) (C := RX12) (T := TX12) (N := 85) hx hb hts hiX12 hown hK hP 0 wm0 rfl 47 (by decide) (hts _ (List.mem_cons_of_mem _ wlq_1_12)) (fun _ h9 => h9) rfl (dk_at dkX12_wanting_3 1 rfl) ?_
        refine tp_i (y := iI (A 0 47)) (congrArg iI e_A10_47) ?_
        refine x_mulv (v := 6 * (A 0 47)) hx hb (dk_at dkX12_wanting_3 2 rfl) (by omega) ?_
        refine lv_istore (lv' := [(4, .int (iI (6 * (A 0 47)))), (3, .int (iI 0)), (2, .int (iI z26)), (1, .int (iI (6 * (A 0 47) + z15))), (0, .ref (q 0))]) hx hb (dk_at dkX12_wanting_3 3 rfl) hl (by decide) rfl (fun ls hl => ?_)
        have L96_33 : ∀ (n35 : Nat) (z30 z31 : Int) (H : Heap) (locs : List Loc) (ls : Array Slot), (6 * (A 0 47) ≤ z30) → (0 ≤ z30 ∧ z30 ≤ 12) → (0 ≤ z31 ∧ z31 ≤ 6) → (z30 ≤ (6 * (A 0 47) + z15)) → (6 * (A 0 47) ≤ z30) → (z31 ≤ z30 - 6 * (A 0 47)) → (Hd (z31 = ct (A 23) (6 * (A 0 47)).toNat z26 (z30 - 6 * (A 0 47)).toNat)) → (∀ (u : St), (∃ mm3 : Nat, (d_X12_wanting_3 z15 z26 A A10 u mm3 z30 z31)) → r_X12_wanting A u) → ((6 * (A 0 47) + z15 - z30 + 1).toNat = n35) → va_P (dC, dI) vwCl (WM cI cJ cZ q A10) H → va_S AS s.heap H locs → lv_has ls 5 [(4, .int (iI z30)), (3, .int (iI z31)), (2, .int (iI z26)), (1, .int (iI (6 * (A 0 47) + z15))), (0, .ref (q 0))] → W p l e (headSpec ws_mb_X12_wanting ({ frames := 3, cells := 0, slots := 0, locals := 70 } : Room)).room s m [.ref (q 0)].toArray below meth c H locs 0 0 Q (F0 m 96 ls []) := by
          intro n35
          induction n35 using Nat.strongRecOn with
          | ind n35 ih34 =>
            intro z30 z31 H locs ls f36 f37 f38 f39 f40 f41 f42 hk3 hn35 hP hS hl
            refine lv_iload hx hb (dk_at dkX12_wanting_3 4 rfl) (lv_at hl 0 rfl) ?_
            refine lv_iload_n hx hb (dk_at dkX12_wanting_3 5 rfl) rfl (lv_at hl 3 rfl) ?_
            refine lv_icmp_ge (tgt := 127) hx hb (dk_at dkX12_wanting_3 6 rfl) (by decide) (fun c43 => ?_) (fun c43 => ?_)
            · have c43 : 6 * (A 0 47) + z15 ≤ z30 := (i_le (by omega) (rb f37 (by decide) (by decide))).mp c43
              have hd44 := f42.out
              rw [show z30 - 6 * (A 0 47) = z15 by omega] at hd44
              replace hd44 := Hd.mk hd44
              refine lv_iload_n hx hb (dk_at dkX12_wanting_4 5 rfl) rfl (lv_at hl 2 rfl) ?_
              refine lv_iconst (v := iI (-1)) hx hb (dk_at dkX12_wanting_4 6 rfl) (by decide +kernel) ?_
              have J146_46 : ∀ (A52 : St) (H : Heap) (locs : List Loc) (ls : Array Slot), (Hd ((A52 0 8) = 0 → (A10 0 8 = 0 ∧ (z26 = -1 ∨ ¬ z31 = 2)))) → (∀ (u : St), (∃ mm3 : Nat, (d_X12_wanting_4 z15 A u A52)) → r_X12_wanting A u) → IM A52 → fr [] [8, 9] A10 A52 → va_P (dC, dI) vwCl (WM cI cJ cZ q A52) H → va_S AS s.heap H locs → lv_has ls 5 [(4, .int (iI z30)), (3, .int (iI z31)), (2, .int (iI z26)), (1, .int (iI (6 * (A 0 47) + z15))), (0, .ref (q 0))] → W p l e (headSpec ws_mb_X12_wanting ({ frames := 3, cells := 0, slots := 0, locals := 70 } : Room)).room s m [.ref (q 0)].toArray below meth c H locs 0 0 Q (F0 m 146 ls []) := by
                intro A52 H locs ls f53 hk4 hI hj51 hP hS hl
                have gI54 : Hd (IM A52) := Hd.mk hI
                refine lv_aload_n hx hb (dk_at dkX12_wanting_5 0 rfl) rfl (lv_at hl 4 rfl) ?_
                refine va_get (D := (dC, dI)) (ci := 12) (v := .ref (q 23)) (C := RX12) (T := TX12) (N := 85) hx hb hts hiX12 hown hK hP 0 wm0 rfl 34 (by decide) (hts _ (List.mem_cons_of_mem _ wlq_3_17)) (fun _ h9 => h9) rfl (dk_at dkX12_wanting_5 1 rfl) ?_
                refine lv_iload_n hx hb (dk_at dkX12_wanting_5 2 rfl) rfl (lv_at hl 3 rfl) ?_
                refine lv_aload_n hx hb (dk_at dkX12_wanting_5 3 rfl) rfl (lv_at hl 4 rfl) ?_
                refine lv_iconst (v := iI 3) hx hb (dk_at dkX12_wanting_5 4 rfl) (by decide +kernel) ?_
                have e_A52_3 : A52 0 3 = (A10 0 3) := (hj51.2 3 rfl)
                have r_A10_0_3 : (0 : Int) ≤ (A10 0 3) ∧ (A10 0 3) ≤ 3 := by rw [← e_A52_3]; exact hI 0 3
                have e_A52_4 : A52 0 4 = (A10 0 4) := (hj51.2 4 rfl)
                have e_A52_7 : A52 0 7 = (A10 0 7) := (hj51.2 7 rfl)
                have r_A10_0_7 : (-9223372036854775808 : Int) ≤ (A10 0 7) ∧ (A10 0 7) ≤ 9223372036854775807 := by rw [← e_A52_7]; exact hI 0 7
                have r_A52_0_8 : (0 : Int) ≤ (A52 0 8) ∧ (A52 0 8) ≤ 5 := hI 0 8
                have e_A52_47 : A52 0 47 = (A 0 47) := (hj51.2 47 rfl).trans e_A10_47
                refine x_calli (As := [.int (iI 3)]) (rest := [.int (iI (6 * (A 0 47) + z15)), .ref (q 23)]) ⟨hx, hb, hml, hown, hts⟩ (mb_X12_asked_3 l dC dI cB cI cJ cZ cQ q _ 3 hI ⟨by decide, by decide⟩ (CB.fr hc13 hj51 rfl rfl)) (cwV 1 hts (goodV wlq_2_47 wlq_2_48 wlq_2_49 wlq_0_8 wlq_2_29) rfl rfl rfl (by decide +kernel) ⟨Nat.le_of_ble_eq_true rfl, Nat.le_of_ble_eq_true rfl⟩) hK hDD hA0 hP hS 0 12 wm0 rfl rfl hl.1 (Nat.le_of_ble_eq_true rfl) (dk_at dkX12_wanting_5 5 rfl) (fun z55 A56 H locs hw57 hP hS => ?_)
                have ghw57 : q_X12_asked_3 3 A52 z55 A56 := hw57
                obtain ⟨_, hI, hf58, hw57⟩ := hw57
                obtain ⟨hc59, hw57⟩ := hw57
                have r_A56_0_4 : (0 : Int) ≤ (A56 0 4) ∧ (A56 0 4) ≤ 1600 := hI 0 4
                have r_A56_0_8 : (0 : Int) ≤ (A56 0 8) ∧ (A56 0 8) ≤ 5 := hI 0 8
                refine x_iast hx hb hK hP hDD hS 23 1 wm23 rfl (by omega) (by decide) (dk_at dkX12_wanting_5 6 rfl) ws23 (fun H locs hP hS => ?_)
                have hI := hI.st (j := 23) (i := (6 * (A 0 47) + z15).toNat) (v := z55) (show (0 : Int) ≤ z55 ∧ z55 ≤ 2 from (by omega))
                have a_A52_22 : A52 22 = A 22 := (hj51.1 22 (by decide) rfl).trans a_A10_22
                have a_A56_22 : A56 22 = A 22 := (hf58.1 22 (by decide) rfl).trans a_A52_22
                obtain ⟨A60, hA60⟩ : ∃ A60 : St, A60 = (stA A56 23 (6 * (A 0 47) + z15).toNat z55) := ⟨_, rfl⟩
                rw [← hA60] at hP hI
                have hc61 : WI A60 := WI.skip (b := A 0 47) (k := 6 * (A 0 47) + z15) (z := z55) (WI.fr (WI.fr (WI.fr hcWI hf12 rfl rfl) hj51 rfl rfl) hf58 rfl rfl) hA60 (by omega) (by rw [a_A56_22]; omega) (by rw [← rd22 hA60]; exact hI 22 0) (by rw [← rd22 hA60]; exact hI 22 1) (by rw [a_A56_22]; have g := f8.out; omega)
                refine lv_bipush (v := iI 6) hx hb (dk_at dkX12_wanting_5 7 rfl) (by decide +kernel) ?_
                refine lv_aload_n hx hb (dk_at dkX12_wanting_5 8 rfl) rfl (lv_at hl 4 rfl) ?_
                have e_A56_47 : A56 0 47 = (A 0 47) := (hf58.2 47 rfl).trans e_A52_47
                have e_A60_47 : A60 0 47 = (A 0 47) := by rw [hA60]; exact e_A56_47
                refine va_get (D := (dC, dI)) (ci := 12) (v := .int (iI (A60 0 47))) (C := RX12) (T := TX12) (N := 85) hx hb hts hiX12 hown hK hP 0 wm0 rfl 47 (by decide) (hts _ (List.mem_cons_of_mem _ wlq_1_12)) (fun _ h9 => h9) rfl (dk_at dkX12_wanting_5 9 rfl) ?_
                refine tp_i (y := iI (A 0 47)) (congrArg iI e_A60_47) ?_
                refine x_mulv (v := 6 * (A 0 47)) hx hb (dk_at dkX12_wanting_5 10 rfl) (by omega) ?_
                refine lv_istore (lv' := [(4, .int (iI (6 * (A 0 47)))), (3, .int (iI z31)), (2, .int (iI z26)), (1, .int (iI (6 * (A 0 47) + z15))), (0, .ref (q 0))]) hx hb (dk_at dkX12_wanting_5 11 rfl) hl (by decide) rfl (fun ls hl => ?_)
                have e_A60_8 : A60 0 8 = (A56 0 8) := by rw [hA60]; exact rfl
                have L166_65 : ∀ (n67 : Nat) (z62 : Int) (A64 : St) (H : Heap) (locs : List Loc) (ls : Array Slot), (6 * (A 0 47) ≤ z62) → (0 ≤ z62 ∧ z62 ≤ 12) → (z62 ≤ (6 * (A 0 47) + z15)) → (6 * (A 0 47) ≤ z62) → (Hd ((A64 0 8) = 0 → A60 0 8 = 0)) → (∀ (u : St), (∃ mm3 mm5 : Nat, (d_X12_wanting_5 z15 A u mm5 z62 A64)) → r_X12_wanting A u) → ((6 * (A 0 47) + z15 - z62 + 1).toNat = n67) → IM A64 → fr [] [8, 9] A60 A64 → va_P (dC, dI) vwCl (WM cI cJ cZ q A64) H → va_S AS s.heap H locs → lv_has ls 5 [(4, .int (iI z62)), (3, .int (iI z31)), (2, .int (iI z26)), (1, .int (iI (6 * (A 0 47) + z15))), (0, .ref (q 0))] → W p l e (headSpec ws_mb_X12_wanting ({ frames := 3, cells := 0, slots := 0, locals := 70 } : Room)).room s m [.ref (q 0)].toArray below meth c H locs 0 0 Q (F0 m 166 ls []) := by
                  intro n67
                  induction n67 using Nat.strongRecOn with
                  | ind n67 ih66 =>
                    intro z62 A64 H locs ls f68 f69 f70 f71 f72 hk5 hn67 hI hj63 hP hS hl
                    have gI73 : Hd (IM A64) := Hd.mk hI
                    have r_A64_0_8 : (0 : Int) ≤ (A64 0 8) ∧ (A64 0 8) ≤ 5 := hI 0 8
                    refine lv_iload hx hb (dk_at dkX12_wanting_5 12 rfl) (lv_at hl 0 rfl) ?_
                    refine lv_iload_n hx hb (dk_at dkX12_wanting_5 13 rfl) rfl (lv_at hl 3 rfl) ?_
                    have J213_75 : ∀ (H : Heap) (locs : List Loc) (ls : Array Slot), (z62 ≤ (6 * (A 0 47) + z15)) → (∀ (u : St), (∃ mm3 mm5 : Nat, (d_X12_wanting_7 z15 A A64 u)) → r_X12_wanting A u) → va_P (dC, dI) vwCl (WM cI cJ cZ q A64) H → va_S AS s.heap H locs → lv_has ls 5 [(4, .int (iI z62)), (3, .int (iI z31)), (2, .int (iI z26)), (1, .int (iI (6 * (A 0 47) + z15))), (0, .ref (q 0))] → W p l e (headSpec ws_mb_X12_wanting ({ frames := 3, cells := 0, slots := 0, locals := 70 } : Room)).room s m [.ref (q 0)].toArray below meth c H locs 0 0 Q (F0 m 213 ls []) := by
                      intro H locs ls f89 hk7 hP hS hl
                      refine lv_aload_n hx hb (dk_at dkX12_wanting_7 4 rfl) rfl (lv_at hl 4 rfl) ?_
                      refine va_get (D := (dC, dI)) (ci := 12) (v := .ref (q 24)) (C := RX12) (T := TX12) (N := 85) hx hb hts hiX12 hown hK hP 0 wm0 rfl 35 (by decide) (hts _ (List.mem_cons_of_mem _ wlq_3_18)) (fun _ h9 => h9) rfl (dk_at dkX12_wanting_7 5 rfl) ?_
                      refine lv_iload_n hx hb (dk_at dkX12_wanting_7 6 rfl) rfl (lv_at hl 3 rfl) ?_
                      refine lv_aload_n hx hb (dk_at dkX12_wanting_7 7 rfl) rfl (lv_at hl 4 rfl) ?_
                      refine lv_iconst (v := iI 4) hx hb (dk_at dkX12_wanting_7 8 rfl) (by decide +kernel) ?_
                      have e_A60_3 : A60 0 3 = (A56 0 3) := by rw [hA60]; exact rfl
                      have e_A64_3 : A64 0 3 = (A56 0 3) := (hj63.2 3 rfl).trans e_A60_3
                      have r_A56_0_3 : (0 : Int) ≤ (A56 0 3) ∧ (A56 0 3) ≤ 3 := by rw [← e_A64_3]; exact hI 0 3
                      have e_A60_4 : A60 0 4 = (A56 0 4) := by rw [hA60]; exact rfl
                      have e_A64_4 : A64 0 4 = (A56 0 4) := (hj63.2 4 rfl).trans e_A60_4
                      have e_A60_7 : A60 0 7 = (A56 0 7) := by rw [hA60]; exact rfl
                      have e_A64_7 : A64 0 7 = (A56 0 7) := (hj63.2 7 rfl).trans e_A60_7
                      have r_A56_0_7 : (-9223372036854775808 : Int) ≤ (A56 0 7) ∧ (A56 0 7) ≤ 9223372036854775807 := by rw [← e_A64_7]; exact hI 0 7
                      have e_A64_47 : A64 0 47 = (A 0 47) := (hj63.2 47 rfl).trans e_A60_47
                      refine x_calli (As := [.int (iI 4)]) (rest := [.int (iI (6 * (A 0 47) + z15)), .ref (q 24)]) ⟨hx, hb, hml, hown, hts⟩ (mb_X12_asked_4 l dC dI cB cI cJ cZ cQ q _ 4 hI ⟨by decide, by decide⟩ (CB.fr (CB.fr hc59 (fr_def hA60 (fr.st (fr.rf (M := [23]) (N := [])) (by decide) rfl)) rfl rfl) hj63 rfl rfl)) (cwV 1 hts (goodV wlq_2_47 wlq_2_48 wlq_2_49 wlq_0_8 wlq_2_29) rfl rfl rfl (by decide +kernel) ⟨Nat.le_of_ble_eq_true rfl, Nat.le_of_ble_eq_true rfl⟩) hK hDD hA0 hP hS 0 12 wm0 rfl rfl hl.1 (Nat.le_of_ble_eq_true rfl) (dk_at dkX12_wanting_7 9 rfl) (fun z90 A91 H locs hw92 hP hS => ?_)
                      have ghw92 : q_X12_asked_4 4 A64 z90 A91 := hw92
                      obtain ⟨_, hI, hf93, hw92⟩ := hw92
                      obtain ⟨hc94, hw92⟩ := hw92
                      have r_A91_0_4 : (0 : Int) ≤ (A91 0 4) ∧ (A91 0 4) ≤ 1600 := hI 0 4
                      have r_A91_0_8 : (0 : Int) ≤ (A91 0 8) ∧ (A91 0 8) ≤ 5 := hI 0 8
                      refine x_iast hx hb hK hP hDD hS 24 1 wm24 rfl (by omega) (by decide) (dk_at dkX12_wanting_7 10 rfl) ws24 (fun H locs hP hS => ?_)
                      have hI := hI.st (j := 24) (i := (6 * (A 0 47) + z15).toNat) (v := z90) (show (0 : Int) ≤ z90 ∧ z90 ≤ 3 from (by omega))
                      obtain ⟨A95, hA95⟩ : ∃ A95 : St, A95 = (stA A91 24 (6 * (A 0 47) + z15).toNat z90) := ⟨_, rfl⟩
                      rw [← hA95] at hP hI
                      refine lv_aload_n hx hb (dk_at dkX12_wanting_7 11 rfl) rfl (lv_at hl 4 rfl) ?_
                      have e_A95_8 : A95 0 8 = (A91 0 8) := by rw [hA95]; exact rfl
                      refine va_get (D := (dC, dI)) (ci := 12) (v := .int (iI (A95 0 8))) (C := RX12) (T := TX12) (N := 85) hx hb hts hiX12 hown hK hP 0 wm0 rfl 8 (by decide) (hts _ (List.mem_cons_of_mem _ wlq_0_16)) (fun _ h9 => h9) rfl (dk_at dkX12_wanting_7 12 rfl) ?_
                      refine tp_i (y := iI (A91 0 8)) (congrArg iI e_A95_8) ?_
                      refine lv_if_ne (tgt := 244) hx hb (dk_at dkX12_wanting_7 13 rfl) (by decide) (fun c96 => ?_) (fun c96 => ?_)
                      · have c96 : ¬ (A91 0 8) = 0 := mt (i_eq0 (rb r_A91_0_8 (by decide) (by decide))).mpr c96
                        have e_A95_4 : A95 0 4 = (A91 0 4) := by rw [hA95]; exact rfl
                        exact RET _ _ _ _ _ ⟨hk7 _ ⟨0, 0, (u_d_X12_wanting_7 ⟨z90, A91, ghw92, ⟨A95, hA95, (Or.inl ⟨c96, rfl⟩)⟩⟩)⟩, hI, fr_def hA95 (fr.st (fr.trans (fr.trans (fr_def hA60 (fr.st (fr.trans (fr.trans (fr.trans (fr.rf) hf12 rfl rfl) hj51 rfl rfl) hf58 rfl rfl) (by decide) rfl)) hj63 rfl rfl) hf93 rfl rfl) (by decide) rfl), (CB.fr hc94 (fr_def hA95 (fr.st (fr.rf (M := [24]) (N := [])) (by decide) rfl)) rfl rfl), (WI.fr (WI.fr (WI.fr hc61 hj63 rfl rfl) hf93 rfl rfl) (fr_def hA95 (fr.st (fr.rf (M := [24]) (N := [])) (by decide) rfl)) rfl rfl), by omega⟩ hP hS (dk_at dkX12_wanting_8 7 rfl)
                      · have c96 : (A91 0 8) = 0 := (i_eq0 (rb r_A91_0_8 (by decide) (by decide))).mp c96
                        refine lv_aload_n hx hb (dk_at dkX12_wanting_7 14 rfl) rfl (lv_at hl 4 rfl) ?_
                        refine va_get (D := (dC, dI)) (ci := 12) (v := .ref (q 22)) (C := RX12) (T := TX12) (N := 85) hx hb hts hiX12 hown hK hP 0 wm0 rfl 33 (by decide) (hts _ (List.mem_cons_of_mem _ wlq_3_16)) (fun _ h9 => h9) rfl (dk_at dkX12_wanting_7 15 rfl) ?_
                        refine lv_aload_n hx hb (dk_at dkX12_wanting_8 0 rfl) rfl (lv_at hl 4 rfl) ?_
                        have e_A91_47 : A91 0 47 = (A 0 47) := (hf93.2 47 rfl).trans e_A64_47
                        have e_A95_47 : A95 0 47 = (A 0 47) := by rw [hA95]; exact e_A91_47
                        refine va_get (D := (dC, dI)) (ci := 12) (v := .int (iI (A95 0 47))) (C := RX12) (T := TX12) (N := 85) hx hb hts hiX12 hown hK hP 0 wm0 rfl 47 (by decide) (hts _ (List.mem_cons_of_mem _ wlq_1_12)) (fun _ h9 => h9) rfl (dk_at dkX12_wanting_8 1 rfl) ?_
                        refine tp_i (y := iI (A 0 47)) (congrArg iI e_A95_47) ?_
                        refine lv_dup2_11 hx hb (dk_at dkX12_wanting_8 2 rfl) rfl rfl ?_
                        have a_A60_22 : A60 22 = A 22 := by rw [hA60]; exact a_A56_22
                        have a_A64_22 : A64 22 = A 22 := (hj63.1 22 (by decide) rfl).trans a_A60_22
                        have a_A91_22 : A91 22 = A 22 := (hf93.1 22 (by decide) rfl).trans a_A64_22
                        have a_A95_22 : A95 22 = A 22 := by rw [hA95]; exact a_A91_22
                        refine x_iald hx hb hK hP 22 1 wm22 rfl (by omega) (by decide) (dk_at dkX12_wanting_8 3 rfl) (fun z97 hz97 => ?_)
                        have rz97 : (0 : Int) ≤ z97 ∧ z97 ≤ 6 := by rw [hz97]; exact hI 22 _
                        have gz97 := Hd.mk hz97
                        have hz97 : z97 = A 22 ((A 0 47)).toNat := hz97.trans (congrFun a_A95_22 _)
                        have ez97 : z97 = z1 := hz97.trans hz1.symm
                        refine lv_iconst (v := iI 1) hx hb (dk_at dkX12_wanting_8 4 rfl) (by decide +kernel) ?_
                        refine x_addv (v := z97 + 1) hx hb (dk_at dkX12_wanting_8 5 rfl) (by omega) ?_
                        refine x_iast hx hb hK hP hDD hS 22 1 wm22 rfl (by omega) (by decide) (dk_at dkX12_wanting_8 6 rfl) ws22 (fun H locs hP hS => ?_)
                        have hI := hI.st (j := 22) (i := ((A 0 47)).toNat) (v := z97 + 1) (show (0 : Int) ≤ z97 + 1 ∧ z97 + 1 ≤ 6 from (by omega))
                        have ca98 : A64 23 = A60 23 := (hj63.1 23 (by decide) rfl)
                        have ca99 : A91 23 = A60 23 := (hf93.1 23 (by decide) rfl).trans ca98
                        have ca100 : A95 23 = A60 23 := by rw [hA95]; exact ca99
                        have a_A10_23 : A10 23 = A 23 := (hf12.1 23 (by decide) rfl)
                        have a_A52_23 : A52 23 = A 23 := (hj51.1 23 (by decide) rfl).trans a_A10_23
                        have a_A56_23 : A56 23 = A 23 := (hf58.1 23 (by decide) rfl).trans a_A52_23
                        have gb := hw92.2.2.2.out (by omega)
                        have gl := f72.out (by omega)
                        have ga := hw57.2.2.2.out (by omega)
                        have a_A10_17 : A10 17 = A 17 := (hf12.1 17 (by decide) rfl)
                        have a_A52_17 : A52 17 = A 17 := (hj51.1 17 (by decide) rfl).trans a_A10_17
                        have a_A10_16 : A10 16 = A 16 := (hf12.1 16 (by decide) rfl)
                        have a_A52_16 : A52 16 = A 16 := (hj51.1 16 (by decide) rfl).trans a_A10_16
                        rw [a_A52_17, a_A52_16, e_A52_47, e_A52_7] at ga
                        have gn := f53.out (by omega)
                        have gp := f29.out (by omega) (by omega) (by omega)
                        have g6 := f8.out
                        have gc := hd44.out
                        have gw := WI.le hcWI (b := A 0 47) (by omega) z26
                        have ezw : z15 = A 22 (A 0 47).toNat := by omega
                        rw [← ezw, ← gc] at gw
                        obtain ⟨A101, hA101⟩ : ∃ A101 : St, A101 = (stA A95 22 ((A 0 47)).toNat (z97 + 1)) := ⟨_, rfl⟩
                        rw [← hA101] at hP hI
                        have hc102 : WI A101 := WI.inc (A := A) (b := A 0 47) (n := z15) (z := z55) (p := z26) (m := z31) (k := 6 * (A 0 47) + z15) (WI.fr (WI.fr (WI.fr hc61 hj63 rfl rfl) hf93 rfl rfl) (fr_def hA95 (fr.st (fr.rf (M := [24]) (N := [])) (by decide) rfl)) rfl rfl) (ca100.trans (by rw [hA60, stA_same, a_A56_23])) (by omega) (by omega) (by rw [a_A95_22]; omega) (by omega) (hA101.trans (by rw [show z97 = z15 by omega])) gc (by omega) (by omega)
                        have e_A95_4 : A95 0 4 = (A91 0 4) := by rw [hA95]; exact rfl
                        have e_A101_4 : A101 0 4 = (A91 0 4) := by rw [hA101]; exact e_A95_4
                        have e_A101_8 : A101 0 8 = (A91 0 8) := by rw [hA101]; exact e_A95_8
                        exact RET _ _ _ _ _ ⟨hk7 _ ⟨0, 0, (u_d_X12_wanting_7 ⟨z90, A91, ghw92, ⟨A95, hA95, (Or.inr ⟨c96, ⟨z97, gz97.out, ⟨A101, hA101, rfl⟩⟩⟩)⟩⟩)⟩, hI, fr_def hA101 (fr.st (fr_def hA95 (fr.st (fr.trans (fr.trans (fr_def hA60 (fr.st (fr.trans (fr.trans (fr.trans (fr.rf) hf12 rfl rfl) hj51 rfl rfl) hf58 rfl rfl) (by decide) rfl)) hj63 rfl rfl) hf93 rfl rfl) (by decide) rfl)) (by decide) rfl), (CB.fr (CB.fr hc94 (fr_def hA95 (fr.st (fr.rf (M := [24]) (N := [])) (by decide) rfl)) rfl rfl) (fr_def hA101 (fr.st (fr.rf (M := [22]) (N := [])) (by decide) rfl)) rfl rfl), hc102, by omega⟩ hP hS (dk_at dkX12_wanting_8 7 rfl)
                    refine lv_icmp_ge (tgt := 213) hx hb (dk_at dkX12_wanting_5 14 rfl) (by decide) (fun c74 => ?_) (fun c74 => ?_)
                    · have c74 : 6 * (A 0 47) + z15 ≤ z62 := (i_le (by omega) (rb f69 (by decide) (by decide))).mp c74
                      exact J213_75 _ _ _ (by omega) (fun uq ⟨mm3, mm5, hq⟩ => hk5 _ ⟨mm3, mm5 + 1, (u_d_X12_wanting_5 ⟨gI73.out, ⟨f69, (Or.inl ⟨c74, hq⟩)⟩⟩)⟩) hP hS (lv_sub hl [0, 1, 2, 3, 4] rfl)
                    · have c74 : ¬ 6 * (A 0 47) + z15 ≤ z62 := mt (i_le (by omega) (rb f69 (by decide) (by decide))).mpr c74
                      refine lv_aload_n hx hb (dk_at dkX12_wanting_5 15 rfl) rfl (lv_at hl 4 rfl) ?_
                      refine va_get (D := (dC, dI)) (ci := 12) (v := .int (iI (A64 0 8))) (C := RX12) (T := TX12) (N := 85) hx hb hts hiX12 hown hK hP 0 wm0 rfl 8 (by decide) (hts _ (List.mem_cons_of_mem _ wlq_0_16)) (fun _ h9 => h9) rfl (dk_at dkX12_wanting_6 0 rfl) ?_
                      refine lv_if_ne (tgt := 213) hx hb (dk_at dkX12_wanting_6 1 rfl) (by decide) (fun c76 => ?_) (fun c76 => ?_)
                      · have c76 : ¬ (A64 0 8) = 0 := mt (i_eq0 (rb r_A64_0_8 (by decide) (by decide))).mpr c76
                        exact J213_75 _ _ _ (by omega) (fun uq ⟨mm3, mm5, hq⟩ => hk5 _ ⟨mm3, mm5 + 1, (u_d_X12_wanting_5 ⟨gI73.out, ⟨f69, (Or.inr ⟨c74, (Or.inl ⟨c76, hq⟩)⟩)⟩⟩)⟩) hP hS (lv_sub hl [0, 1, 2, 3, 4] rfl)
                      · have c76 : (A64 0 8) = 0 := (i_eq0 (rb r_A64_0_8 (by decide) (by decide))).mp c76
                        refine lv_aload_n hx hb (dk_at dkX12_wanting_6 2 rfl) rfl (lv_at hl 4 rfl) ?_
                        refine va_get (D := (dC, dI)) (ci := 12) (v := .ref (q 23)) (C := RX12) (T := TX12) (N := 85) hx hb hts hiX12 hown hK hP 0 wm0 rfl 34 (by decide) (hts _ (List.mem_cons_of_mem _ wlq_3_17)) (fun _ h9 => h9) rfl (dk_at dkX12_wanting_6 3 rfl) ?_
                        refine lv_iload hx hb (dk_at dkX12_wanting_6 4 rfl) (lv_at hl 0 rfl) ?_
                        refine x_iald hx hb hK hP 23 1 wm23 rfl (by omega) (by decide) (dk_at dkX12_wanting_6 5 rfl) (fun z77 hz77 => ?_)
                        have rz77 : (0 : Int) ≤ z77 ∧ z77 ≤ 2 := by rw [hz77]; exact hI 23 _
                        have gz77 := Hd.mk hz77
                        clear hz77
                        refine lv_aload_n hx hb (dk_at dkX12_wanting_6 6 rfl) rfl (lv_at hl 4 rfl) ?_
                        refine va_get (D := (dC, dI)) (ci := 12) (v := .ref (q 23)) (C := RX12) (T := TX12) (N := 85) hx hb hts hiX12 hown hK hP 0 wm0 rfl 34 (by decide) (hts _ (List.mem_cons_of_mem _ wlq_3_17)) (fun _ h9 => h9) rfl (dk_at dkX12_wanting_6 7 rfl) ?_
                        refine lv_iload_n hx hb (dk_at dkX12_wanting_6 8 rfl) rfl (lv_at hl 3 rfl) ?_
                        refine x_iald hx hb hK hP 23 1 wm23 rfl (by omega) (by decide) (dk_at dkX12_wanting_6 9 rfl) (fun z78 hz78 => ?_)
                        have rz78 : (0 : Int) ≤ z78 ∧ z78 ≤ 2 := by rw [hz78]; exact hI 23 _
                        have gz78 := Hd.mk hz78
                        clear hz78
                        have J207_80 : ∀ (A86 : St) (H : Heap) (locs : List Loc) (ls : Array Slot), (∀ (u : St), (∃ mm3 mm5 : Nat, (d_X12_wanting_6 (fun z62' A64' => d_X12_wanting_5 z15 A u mm5 z62' A64') z62 u A86)) → r_X12_wanting A u) → IM A86 → fr [] [8, 9] A64 A86 → va_P (dC, dI) vwCl (WM cI cJ cZ q A86) H → va_S AS s.heap H locs → lv_has ls 5 [(4, .int (iI z62)), (3, .int (iI z31)), (2, .int (iI z26)), (1, .int (iI (6 * (A 0 47) + z15))), (0, .ref (q 0))] → W p l e (headSpec ws_mb_X12_wanting ({ frames := 3, cells := 0, slots := 0, locals := 70 } : Room)).room s m [.ref (q 0)].toArray below meth c H locs 0 0 Q (F0 m 207 ls []) := by
                          intro A86 H locs ls hk6 hI hj85 hP hS hl
                          have gI87 : Hd (IM A86) := Hd.mk hI
                          refine lv_iinc (v := iI (z62 + 1)) (lv' := [(4, .int (iI (z62 + 1))), (3, .int (iI z31)), (2, .int (iI z26)), (1, .int (iI (6 * (A 0 47) + z15))), (0, .ref (q 0))]) hx hb (dk_at dkX12_wanting_7 2 rfl) hl (k := 0) rfl (i_inc (by omega)) (by decide) rfl (fun ls hl => ?_)
                          refine lv_goto (tgt := 166) hx hb (dk_at dkX12_wanting_7 3 rfl) (by decide) ?_
                          have r_A86_0_8 : (0 : Int) ≤ (A86 0 8) ∧ (A86 0 8) ≤ 5 := hI 0 8
                          exact ih66 _ (by omega) (z62 + 1) _ _ _ _ (by omega) (by omega) (by omega) (by omega) (by exact Hd.mk (by have g0 := f72.out;  omega)) (fun uq ⟨mm3, mm5, hq⟩ => hk6 _ ⟨mm3, mm5, (u_d_X12_wanting_6 ⟨gI87.out, hq⟩)⟩) rfl hI (fr.trans (fr.trans (fr.rf) hj63 rfl rfl) hj85 rfl rfl) hP hS (lv_sub hl [0, 1, 2, 3, 4] rfl)
                        refine lv_icmp_ne (tgt := 207) hx hb (dk_at dkX12_wanting_6 10 rfl) (by decide) (fun c79 => ?_) (fun c79 => ?_)
                        · have c79 : ¬ z77 = z78 := mt (i_eq (rb rz77 (by decide) (by decide)) (rb rz78 (by decide) (by decide))).mpr c79
                          exact J207_80 _ _ _ _ (fun uq ⟨mm3, mm5, hq⟩ => hk5 _ ⟨mm3, mm5 + 1, (u_d_X12_wanting_5 ⟨gI73.out, ⟨f69, (Or.inr ⟨c74, (Or.inr ⟨c76, ⟨z77, gz77.out, ⟨z78, gz78.out, (Or.inl ⟨c79, hq⟩)⟩⟩⟩)⟩)⟩⟩)⟩) hI (fr.rf) hP hS (lv_sub hl [0, 1, 2, 3, 4] rfl)
                        · have c79 : z77 = z78 := (i_eq (rb rz77 (by decide) (by decide)) (rb rz78 (by decide) (by decide))).mp c79
                          refine lv_aload_n hx hb (dk_at dkX12_wanting_6 11 rfl) rfl (lv_at hl 4 rfl) ?_
                          refine lv_iconst (v := iI 4) hx hb (dk_at dkX12_wanting_6 12 rfl) (by decide +kernel) ?_
                          refine lv_aload_n hx hb (dk_at dkX12_wanting_6 13 rfl) rfl (lv_at hl 4 rfl) ?_
                          refine va_get (D := (dC, dI)) (ci := 12) (v := .ref (q 24)) (C := RX12) (T := TX12) (N := 85) hx hb hts hiX12 hown hK hP 0 wm0 rfl 35 (by decide) (hts _ (List.mem_cons_of_mem _ wlq_3_18)) (fun _ h9 => h9) rfl (dk_at dkX12_wanting_6 14 rfl) ?_
                          refine lv_iload hx hb (dk_at dkX12_wanting_6 15 rfl) (lv_at hl 0 rfl) ?_
                          have a_A10_24 : A10 24 = A 24 := (hf12.1 24 (by decide) rfl)
                          have a_A52_24 : A52 24 = A 24 := (hj51.1 24 (by decide) rfl).trans a_A10_24
                          have a_A56_24 : A56 24 = A 24 := (hf58.1 24 (by decide) rfl).trans a_A52_24
                          have a_A60_24 : A60 24 = A 24 := by rw [hA60]; exact a_A56_24
                          have a_A64_24 : A64 24 = A 24 := (hj63.1 24 (by decide) rfl).trans a_A60_24
                          refine x_iald hx hb hK hP 24 1 wm24 rfl (by omega) (by decide) (dk_at dkX12_wanting_7 0 rfl) (fun z81 hz81 => ?_)
                          have rz81 : (0 : Int) ≤ z81 ∧ z81 ≤ 3 := by rw [hz81]; exact hI 24 _
                          have gz81 := Hd.mk hz81
                          have hz81 : z81 = A 24 (z62).toNat := hz81.trans (congrFun a_A64_24 _)
                          refine x_callv (As := [.int (iI 4), .int (iI z81)]) (rest := []) ⟨hx, hb, hml, hown, hts⟩ (mb_X12_bars l dC dI cB cI cJ cZ cQ q _ 4 z81 hI ⟨by decide, by decide⟩ (rb rz81 (by decide) (by decide))) (cwV 2 hts (goodV wlq_2_50 wlq_2_51 wlq_2_52 wlq_0_8 wlq_2_30) rfl rfl rfl (by decide +kernel) ⟨Nat.le_of_ble_eq_true rfl, Nat.le_of_ble_eq_true rfl⟩) hK hDD hA0 hP hS 0 12 wm0 rfl rfl hl.1 (Nat.le_of_ble_eq_true rfl) (dk_at dkX12_wanting_7 1 rfl) (fun A82 H locs hw83 hP hS => ?_)
                          have ghw83 : q_X12_bars 4 z81 A64 A82 := hw83
                          obtain ⟨_, hI, hf84, hw83⟩ := hw83
                          clear hw83
                          exact J207_80 _ _ _ _ (fun uq ⟨mm3, mm5, hq⟩ => hk5 _ ⟨mm3, mm5 + 1, (u_d_X12_wanting_5 ⟨gI73.out, ⟨f69, (Or.inr ⟨c74, (Or.inr ⟨c76, ⟨z77, gz77.out, ⟨z78, gz78.out, (Or.inr ⟨c79, ⟨z81, gz81.out, ⟨A82, ghw83, hq⟩⟩⟩)⟩⟩⟩)⟩)⟩⟩)⟩) hI (fr.trans (fr.rf) hf84 rfl rfl) hP hS (lv_sub hl [0, 1, 2, 3, 4] rfl)
                exact L166_65 _ (6 * (A 0 47)) _ _ _ _ (by omega) (by omega) (by omega) (by omega) (by exact Hd.mk (by  omega)) (fun uq ⟨mm3, mm5, hq⟩ => hk4 _ ⟨mm3, (u_d_X12_wanting_4 ⟨gI54.out, ⟨z55, A56, ghw57, ⟨A60, hA60, ⟨mm5, hq⟩⟩⟩⟩)⟩) rfl hI (fr.rf) hP hS (lv_sub hl [0, 1, 2, 3, 4] rfl)
              refine lv_icmp_eq (tgt := 146) hx hb (dk_at dkX12_wanting_4 7 rfl) (by decide) (fun c45 => ?_) (fun c45 => ?_)
              · have c45 : z26 = (-1) := (i_eq (rb f28 (by decide) (by decide)) ⟨by decide, by decide⟩).mp c45
                exact J146_46 _ _ _ _ (by exact Hd.mk (by  omega)) (fun uq ⟨mm3, hq⟩ => hk3 _ ⟨mm3 + 1, (u_d_X12_wanting_3 ⟨f37, ⟨f38, (Or.inl ⟨c43, (Or.inl ⟨c45, hq⟩)⟩)⟩⟩)⟩) hI (fr.rf) hP hS (lv_sub hl [0, 1, 2, 3, 4] rfl)
              · have c45 : ¬ z26 = (-1) := mt (i_eq (rb f28 (by decide) (by decide)) ⟨by decide, by decide⟩).mpr c45
                refine lv_iload_n hx hb (dk_at dkX12_wanting_4 8 rfl) rfl (lv_at hl 1 rfl) ?_
                refine lv_iconst (v := iI 2) hx hb (dk_at dkX12_wanting_4 9 rfl) (by decide +kernel) ?_
                refine lv_icmp_ne (tgt := 146) hx hb (dk_at dkX12_wanting_4 10 rfl) (by decide) (fun c47 => ?_) (fun c47 => ?_)
                · have c47 : ¬ z31 = 2 := mt (i_eq (rb f38 (by decide) (by decide)) ⟨by decide, by decide⟩).mpr c47
                  exact J146_46 _ _ _ _ (by exact Hd.mk (by  omega)) (fun uq ⟨mm3, hq⟩ => hk3 _ ⟨mm3 + 1, (u_d_X12_wanting_3 ⟨f37, ⟨f38, (Or.inl ⟨c43, (Or.inr ⟨c45, (Or.inl ⟨c47, hq⟩)⟩)⟩)⟩⟩)⟩) hI (fr.rf) hP hS (lv_sub hl [0, 1, 2, 3, 4] rfl)
                · have c47 : z31 = 2 := (i_eq (rb f38 (by decide) (by decide)) ⟨by decide, by decide⟩).mp c47
                  refine lv_aload_n hx hb (dk_at dkX12_wanting_4 11 rfl) rfl (lv_at hl 4 rfl) ?_
                  refine lv_iconst (v := iI 3) hx hb (dk_at dkX12_wanting_4 12 rfl) (by decide +kernel) ?_
                  refine lv_aload_n hx hb (dk_at dkX12_wanting_4 13 rfl) rfl (lv_at hl 4 rfl) ?_
                  refine va_get (D := (dC, dI)) (ci := 12) (v := .int (iI (A10 0 4))) (C := RX12) (T := TX12) (N := 85) hx hb hts hiX12 hown hK hP 0 wm0 rfl 4 (by decide) (hts _ (List.mem_cons_of_mem _ wlq_0_23)) (fun _ h9 => h9) rfl (dk_at dkX12_wanting_4 14 rfl) ?_
                  refine x_callv (As := [.int (iI 3), .int (iI (A10 0 4))]) (rest := []) ⟨hx, hb, hml, hown, hts⟩ (mc_X12_blame l dC dI cB cI cJ cZ cQ q _ 3 (A10 0 4) hI ⟨by decide, by decide⟩ r_A10_0_4) (cwV 2 hts (goodV wlq_0_31 wlq_0_32 wlq_0_33 wlq_0_8 wlq_0_15) rfl rfl rfl (by decide +kernel) ⟨Nat.le_of_ble_eq_true rfl, Nat.le_of_ble_eq_true rfl⟩) hK hDD hA0 hP hS 0 12 wm0 rfl rfl hl.1 (Nat.le_of_ble_eq_true rfl) (dk_at dkX12_wanting_4 15 rfl) (fun A48 H locs hw49 hP hS => ?_)
                  have ghw49 : q_X12_blame 3 (A10 0 4) A10 A48 := hw49
                  obtain ⟨_, hI, hf50, hw49⟩ := hw49
                  have r_A48_0_8 : (0 : Int) ≤ (A48 0 8) ∧ (A48 0 8) ≤ 5 := hI 0 8
                  exact J146_46 _ _ _ _ (by exact Hd.mk (by  omega)) (fun uq ⟨mm3, hq⟩ => hk3 _ ⟨mm3 + 1, (u_d_X12_wanting_3 ⟨f37, ⟨f38, (Or.inl ⟨c43, (Or.inr ⟨c45, (Or.inr ⟨c47, ⟨A48, ghw49, hq⟩⟩)⟩)⟩)⟩⟩)⟩) hI (fr.trans (fr.rf) hf50 rfl rfl) hP hS (lv_sub hl [0, 1, 2, 3, 4] rfl)
            · have c43 : ¬ 6 * (A 0 47) + z15 ≤ z30 := mt (i_le (by omega) (rb f37 (by decide) (by decide))).mpr c43
              refine lv_iload_n hx hb (dk_at dkX12_wanting_3 7 rfl) rfl (lv_at hl 1 rfl) ?_
              refine lv_aload_n hx hb (dk_at dkX12_wanting_3 8 rfl) rfl (lv_at hl 4 rfl) ?_
              refine va_get (D := (dC, dI)) (ci := 12) (v := .ref (q 23)) (C := RX12) (T := TX12) (N := 85) hx hb hts hiX12 hown hK hP 0 wm0 rfl 34 (by decide) (hts _ (List.mem_cons_of_mem _ wlq_3_17)) (fun _ h9 => h9) rfl (dk_at dkX12_wanting_3 9 rfl) ?_
              refine lv_iload hx hb (dk_at dkX12_wanting_3 10 rfl) (lv_at hl 0 rfl) ?_
              have a_A10_23 : A10 23 = A 23 := (hf12.1 23 (by decide) rfl)
              refine x_iald hx hb hK hP 23 1 wm23 rfl (by omega) (by decide) (dk_at dkX12_wanting_3 11 rfl) (fun z103 hz103 => ?_)
              have rz103 : (0 : Int) ≤ z103 ∧ z103 ≤ 2 := by rw [hz103]; exact hI 23 _
              have gz103 := Hd.mk hz103
              have hz103 : z103 = A 23 (z30).toNat := hz103.trans (congrFun a_A10_23 _)
              refine lv_iload_n hx hb (dk_at dkX12_wanting_3 12 rfl) rfl (lv_at hl 2 rfl) ?_
              have J119_105 : ∀ (z106 : Int) (H : Heap) (locs : List Loc) (ls : Array Slot), (0 ≤ z106 ∧ z106 ≤ 1) → ((z106 = 0 ∧ ¬ z103 = z26) ∨ (z106 = 1 ∧ z103 = z26)) → (∀ (u : St), (∃ mm3 : Nat, (d_X12_wanting_8 (fun z30' z31' => d_X12_wanting_3 z15 z26 A A10 u mm3 z30' z31') z30 z31 u z106)) → r_X12_wanting A u) → va_P (dC, dI) vwCl (WM cI cJ cZ q A10) H → va_S AS s.heap H locs → lv_has ls 5 [(4, .int (iI z30)), (3, .int (iI z31)), (2, .int (iI z26)), (1, .int (iI (6 * (A 0 47) + z15))), (0, .ref (q 0))] → W p l e (headSpec ws_mb_X12_wanting ({ frames := 3, cells := 0, slots := 0, locals := 70 } : Room)).room s m [.ref (q 0)].toArray below meth c H locs 0 0 Q (F0 m 119 ls [.int (iI z106), .int (iI z31)]) := by
                intro z106 H locs ls f108 f109 hk8 hP hS hl
                refine x_addv (v := z31 + z106) hx hb (dk_at dkX12_wanting_4 1 rfl) (by omega) ?_
                refine lv_istore_n (lv' := [(3, .int (iI (z31 + z106))), (4, .int (iI z30)), (2, .int (iI z26)), (1, .int (iI (6 * (A 0 47) + z15))), (0, .ref (q 0))]) hx hb (dk_at dkX12_wanting_4 2 rfl) rfl hl (by decide) rfl (fun ls hl => ?_)
                refine lv_iinc (v := iI (z30 + 1)) (lv' := [(4, .int (iI (z30 + 1))), (3, .int (iI (z31 + z106))), (2, .int (iI z26)), (1, .int (iI (6 * (A 0 47) + z15))), (0, .ref (q 0))]) hx hb (dk_at dkX12_wanting_4 3 rfl) hl (k := 1) rfl (i_inc (by omega)) (by decide) rfl (fun ls hl => ?_)
                refine lv_goto (tgt := 96) hx hb (dk_at dkX12_wanting_4 4 rfl) (by decide) ?_
                exact ih34 _ (by omega) (z30 + 1) (z31 + z106) _ _ _ (by omega) (by omega) (by omega) (by omega) (by omega) (by omega) (by exact Hd.mk (ct_stepI (i := z30) (by omega) (by omega) f42.out (by omega))) (fun uq ⟨mm3, hq⟩ => hk8 _ ⟨mm3, (u_d_X12_wanting_8 ⟨f108, hq⟩)⟩) rfl hP hS (lv_sub hl [0, 1, 2, 3, 4] rfl)
              refine lv_icmp_ne (tgt := 118) hx hb (dk_at dkX12_wanting_3 13 rfl) (by decide) (fun c104 => ?_) (fun c104 => ?_)
              · have c104 : ¬ z103 = z26 := mt (i_eq (rb rz103 (by decide) (by decide)) (rb f28 (by decide) (by decide))).mpr c104
                refine lv_iconst (v := iI 0) hx hb (dk_at dkX12_wanting_4 0 rfl) (by decide +kernel) ?_
                exact J119_105 0 _ _ _ (by omega) (by omega) (fun uq ⟨mm3, hq⟩ => hk3 _ ⟨mm3 + 1, (u_d_X12_wanting_3 ⟨f37, ⟨f38, (Or.inr ⟨c43, ⟨z103, gz103.out, (Or.inl ⟨c104, hq⟩)⟩⟩)⟩⟩)⟩) hP hS (lv_sub hl [0, 1, 2, 3, 4] rfl)
              · have c104 : z103 = z26 := (i_eq (rb rz103 (by decide) (by decide)) (rb f28 (by decide) (by decide))).mp c104
                refine lv_iconst (v := iI 1) hx hb (dk_at dkX12_wanting_3 14 rfl) (by decide +kernel) ?_
                refine lv_goto (tgt := 119) hx hb (dk_at dkX12_wanting_3 15 rfl) (by decide) ?_
                exact J119_105 1 _ _ _ (by omega) (by omega) (fun uq ⟨mm3, hq⟩ => hk3 _ ⟨mm3 + 1, (u_d_X12_wanting_3 ⟨f37, ⟨f38, (Or.inr ⟨c43, ⟨z103, gz103.out, (Or.inr ⟨c104, hq⟩)⟩⟩)⟩⟩)⟩) hP hS (lv_sub hl [0, 1, 2, 3, 4] rfl)
        exact L96_33 _ (6 * (A 0 47)) 0 _ _ _ (by omega) (by omega) (by omega) (by omega) (by omega) (by omega) (by exact Hd.mk (by rw [show 6 * (A 0 47) - 6 * (A 0 47) = 0 by omega]; rfl)) (fun uq ⟨mm3, hq⟩ => hk2 _ (u_d_X12_wanting_2 ⟨f28, ⟨mm3, hq⟩⟩)) rfl hP hS (lv_sub hl [0, 1, 2, 3, 4] rfl)
      refine lv_if_ne (tgt := 83) hx hb (dk_at dkX12_wanting_1 11 rfl) (by decide) (fun c16 => ?_) (fun c16 => ?_)
      · have c16 : ¬ (A10 0 8) = 0 := mt (i_eq0 (rb r_A10_0_8 (by decide) (by decide))).mpr c16
        refine lv_iconst (v := iI (-1)) hx hb (dk_at dkX12_wanting_2 11 rfl) (by decide +kernel) ?_
        have r_A10_0_3 : (0 : Int) ≤ (A10 0 3) ∧ (A10 0 3) ≤ 3 := hI 0 3
        have r_A10_0_7 : (-9223372036854775808 : Int) ≤ (A10 0 7) ∧ (A10 0 7) ≤ 9223372036854775807 := hI 0 7
        exact J84_17 (-1) _ _ _ (by omega) (by exact Hd.mk (by  omega)) (fun uq hq => hk1 _ (u_d_X12_wanting_1 ⟨f6, ⟨z9, A10, ghw11, (Or.inl ⟨c14, ⟨z15, gz15.out, (Or.inl ⟨c16, hq⟩)⟩⟩)⟩⟩)) hP hS (lv_sub hl [0, 1] rfl)
      · have c16 : (A10 0 8) = 0 := (i_eq0 (rb r_A10_0_8 (by decide) (by decide))).mp c16
        refine lv_aload_n hx hb (dk_at dkX12_wanting_1 12 rfl) rfl (lv_at hl 1 rfl) ?_
        refine va_get (D := (dC, dI)) (ci := 12) (v := .int (iI (A10 0 3))) (C := RX12) (T := TX12) (N := 85) hx hb hts hiX12 hown hK hP 0 wm0 rfl 3 (by decide) (hts _ (List.mem_cons_of_mem _ wlq_0_24)) (fun _ h9 => h9) rfl (dk_at dkX12_wanting_1 13 rfl) ?_
        have r_A10_0_3 : (0 : Int) ≤ (A10 0 3) ∧ (A10 0 3) ≤ 3 := hI 0 3
        refine lv_iconst (v := iI 1) hx hb (dk_at dkX12_wanting_1 14 rfl) (by decide +kernel) ?_
        refine lv_icmp_ne (tgt := 83) hx hb (dk_at dkX12_wanting_1 15 rfl) (by decide) (fun c18 => ?_) (fun c18 => ?_)
        · have c18 : ¬ (A10 0 3) = 1 := mt (i_eq (rb r_A10_0_3 (by decide) (by decide)) ⟨by decide, by decide⟩).mpr c18
          refine lv_iconst (v := iI (-1)) hx hb (dk_at dkX12_wanting_2 11 rfl) (by decide +kernel) ?_
          have r_A10_0_7 : (-9223372036854775808 : Int) ≤ (A10 0 7) ∧ (A10 0 7) ≤ 9223372036854775807 := hI 0 7
          exact J84_17 (-1) _ _ _ (by omega) (by exact Hd.mk (by  omega)) (fun uq hq => hk1 _ (u_d_X12_wanting_1 ⟨f6, ⟨z9, A10, ghw11, (Or.inl ⟨c14, ⟨z15, gz15.out, (Or.inr ⟨c16, (Or.inl ⟨c18, hq⟩)⟩)⟩⟩)⟩⟩)) hP hS (lv_sub hl [0, 1] rfl)
        · have c18 : (A10 0 3) = 1 := (i_eq (rb r_A10_0_3 (by decide) (by decide)) ⟨by decide, by decide⟩).mp c18
          refine lv_aload_n hx hb (dk_at dkX12_wanting_2 0 rfl) rfl (lv_at hl 1 rfl) ?_
          refine lv_aload_n hx hb (dk_at dkX12_wanting_2 1 rfl) rfl (lv_at hl 1 rfl) ?_
          refine va_get (D := (dC, dI)) (ci := 12) (v := .long (jI (A10 0 7))) (C := RX12) (T := TX12) (N := 85) hx hb hts hiX12 hown hK hP 0 wm0 rfl 7 (by decide) (hts _ (List.mem_cons_of_mem _ wlq_0_26)) (fun _ h9 => h9) rfl (dk_at dkX12_wanting_2 2 rfl) ?_
          have r_A10_0_7 : (-9223372036854775808 : Int) ≤ (A10 0 7) ∧ (A10 0 7) ≤ 9223372036854775807 := hI 0 7
          refine x_calli (As := [.long (jI (A10 0 7))]) (rest := []) ⟨hx, hb, hml, hown, hts⟩ (mb_X12_isOwn l dC dI cB cI cJ cZ cQ q _ (A10 0 7) hI r_A10_0_7) (cwV 1 hts (goodV wlq_2_23 wlq_2_24 wlq_2_25 wlq_0_8 wlq_0_43) rfl rfl rfl (by decide +kernel) ⟨Nat.le_of_ble_eq_true rfl, Nat.le_of_ble_eq_true rfl⟩) hK hDD hA0 hP hS 0 12 wm0 rfl rfl hl.1 (Nat.le_of_ble_eq_true rfl) (dk_at dkX12_wanting_2 3 rfl) (fun z19 A20 H locs hw21 hP hS => ?_)
          obtain ⟨rfl, hw21⟩ := hw21
          have ghw21 : q_X12_isOwn (A10 0 7) A10 z19 := hw21
          have hw21 := hw21.2
          have rz19 : 0 ≤ z19 ∧ z19 ≤ 1 := hw21.1
          refine lv_if_ne (tgt := 83) hx hb (dk_at dkX12_wanting_2 4 rfl) (by decide) (fun c22 => ?_) (fun c22 => ?_)
          · have c22 : ¬ z19 = 0 := mt (i_eq0 (rb rz19 (by decide) (by decide))).mpr c22
            refine lv_iconst (v := iI (-1)) hx hb (dk_at dkX12_wanting_2 11 rfl) (by decide +kernel) ?_
            exact J84_17 (-1) _ _ _ (by omega) (by exact Hd.mk (by  omega)) (fun uq hq => hk1 _ (u_d_X12_wanting_1 ⟨f6, ⟨z9, A10, ghw11, (Or.inl ⟨c14, ⟨z15, gz15.out, (Or.inr ⟨c16, (Or.inr ⟨c18, ⟨z19, ghw21, (Or.inl ⟨c22, hq⟩)⟩⟩)⟩)⟩⟩)⟩⟩)) hP hS (lv_sub hl [0, 1] rfl)
          · have c22 : z19 = 0 := (i_eq0 (rb rz19 (by decide) (by decide))).mp c22
            refine lv_aload_n hx hb (dk_at dkX12_wanting_2 5 rfl) rfl (lv_at hl 1 rfl) ?_
            refine lv_iconst (v := iI 3) hx hb (dk_at dkX12_wanting_2 6 rfl) (by decide +kernel) ?_
            refine lv_aload_n hx hb (dk_at dkX12_wanting_2 7 rfl) rfl (lv_at hl 1 rfl) ?_
            refine va_get (D := (dC, dI)) (ci := 12) (v := .long (jI (A10 0 7))) (C := RX12) (T := TX12) (N := 85) hx hb hts hiX12 hown hK hP 0 wm0 rfl 7 (by decide) (hts _ (List.mem_cons_of_mem _ wlq_0_26)) (fun _ h9 => h9) rfl (dk_at dkX12_wanting_2 8 rfl) ?_
            refine x_calli (As := [.int (iI 3), .long (jI (A10 0 7))]) (rest := []) ⟨hx, hb, hml, hown, hts⟩ (mb_X12_named_3 l dC dI cB cI cJ cZ cQ q _ 3 (A10 0 7) hI ⟨by decide, by decide⟩ r_A10_0_7) (cwV 2 hts (goodV wlq_2_26 wlq_2_27 wlq_2_28 wlq_0_8 wlq_1_10) rfl rfl rfl (by decide +kernel) ⟨Nat.le_of_ble_eq_true rfl, Nat.le_of_ble_eq_true rfl⟩) hK hDD hA0 hP hS 0 12 wm0 rfl rfl hl.1 (Nat.le_of_ble_eq_true rfl) (dk_at dkX12_wanting_2 9 rfl) (fun z23 A24 H locs hw25 hP hS => ?_)
            obtain ⟨rfl, hw25⟩ := hw25
            have ghw25 : q_X12_named_3 3 (A10 0 7) A10 z23 := hw25
            have hw25 := hw25.2
            have a_A10_17 : A10 17 = A 17 := (hf12.1 17 (by decide) rfl)
            have a_A10_16 : A10 16 = A 16 := (hf12.1 16 (by decide) rfl)
            rw [a_A10_17, a_A10_16, e_A10_47] at hw25
            refine lv_goto (tgt := 84) hx hb (dk_at dkX12_wanting_2 10 rfl) (by decide) ?_
            exact J84_17 z23 _ _ _ (by omega) (by exact Hd.mk (by  omega)) (fun uq hq => hk1 _ (u_d_X12_wanting_1 ⟨f6, ⟨z9, A10, ghw11, (Or.inl ⟨c14, ⟨z15, gz15.out, (Or.inr ⟨c16, (Or.inr ⟨c18, ⟨z19, ghw21, (Or.inr ⟨c22, ⟨z23, ghw25, hq⟩⟩)⟩⟩)⟩)⟩⟩)⟩⟩)) hP hS (lv_sub hl [0, 1] rfl)
    · have c14 : z9 = 0 := (i_eq0 (rb rz9 (by decide) (by decide))).mp c14
      exact RET _ _ _ _ _ ⟨hk1 _ (u_d_X12_wanting_1 ⟨f6, ⟨z9, A10, ghw11, (Or.inr ⟨c14, rfl⟩)⟩⟩), hI, fr.trans (fr.rf) hf12 rfl rfl, hc13, (WI.fr hcWI hf12 rfl rfl), by omega⟩ hP hS (dk_at dkX12_wanting_0 13 rfl)
  refine lv_icmp_ne (tgt := 19) hx hb (dk_at dkX12_wanting_0 7 rfl) (by decide) (fun c2 => ?_) (fun c2 => ?_)
  · have c2 : ¬ z1 = 6 := mt (i_eq (rb rz1 (by decide) (by decide)) ⟨by decide, by decide⟩).mpr c2
    refine lv_iconst (v := iI 0) hx hb (dk_at dkX12_wanting_0 10 rfl) (by decide +kernel) ?_
    exact J20_3 0 _ _ _ (by omega) (by omega) (by exact Hd.mk (by  omega)) (fun uq hq => (u_r_X12_wanting ⟨z1, gz1.out, (Or.inl ⟨c2, hq⟩)⟩)) hP hS (lv_sub hl [0] rfl)
  · have c2 : z1 = 6 := (i_eq (rb rz1 (by decide) (by decide)) ⟨by decide, by decide⟩).mp c2
    refine lv_iconst (v := iI 1) hx hb (dk_at dkX12_wanting_0 8 rfl) (by decide +kernel) ?_
    refine lv_goto (tgt := 20) hx hb (dk_at dkX12_wanting_0 9 rfl) (by decide) ?_
    exact J20_3 1 _ _ _ (by omega) (by omega) (by exact Hd.mk (by  omega)) (fun uq hq => (u_r_X12_wanting ⟨z1, gz1.out, (Or.inr ⟨c2, hq⟩)⟩)) hP hS (lv_sub hl [0] rfl)
