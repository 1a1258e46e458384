abbrev tr_d_X12_operand_10 (z200 : Int) (z : Int) (u : St) (A224 : St) : Prop := ((IM A224) ∧ (∃ A227 : St, q_X12_opens 3 A224 A227 ∧ (((¬ (A227 0 8) = 0) ∧ (z = 0 ∧ u = A227)) ∨ (((A227 0 8) = 0) ∧ (∃ A231 : St, A231 = (stA A227 38 ((A227 0 53) - 1).toNat z200) ∧ (z = 0 ∧ u = A231))))))
def d_X12_operand_10 (z200 : Int) (z : Int) (u : St) (A224 : St) : Prop := tr_d_X12_operand_10 z200 z u A224
theorem u_d_X12_operand_10 {z200 : Int} {z : Int} {u : St} {A224 : St} (h : tr_d_X12_operand_10 z200 z u A224) : d_X12_operand_10 z200 z u A224 := h
abbrev tr_d_X12_operand_9 (A49 : St) (z : Int) (u : St) (z200 : Int) : Prop := ((15 ≤ z200 ∧ z200 ≤ 16) ∧ (∃ A204 : St, q_X12_ahead A49 A204 ∧ (∃ z215 : Int, q_X12_isSign 40 A204 z215 ∧ (((¬ z215 = 0) ∧ (d_X12_operand_10 z200 z u A204)) ∨ ((z215 = 0) ∧ (∃ A220 : St, q_X12_blame 1 (A204 0 4) A204 A220 ∧ (d_X12_operand_10 z200 z u A220)))))))
def d_X12_operand_9 (A49 : St) (z : Int) (u : St) (z200 : Int) : Prop := tr_d_X12_operand_9 A49 z u z200
theorem u_d_X12_operand_9 {A49 : St} {z : Int} {u : St} {z200 : Int} (h : tr_d_X12_operand_9 A49 z u z200) : d_X12_operand_9 A49 z u z200 := h
abbrev tr_d_X12_operand_8 (A49 : St) (z : Int) (u : St) : Prop := (∃ z195 : Int, q_X12_isWord 7170414 A49 z195 ∧ (((z195 = 0) ∧ (d_X12_operand_9 A49 z u 16)) ∨ ((¬ z195 = 0) ∧ (d_X12_operand_9 A49 z u 15))))
def d_X12_operand_8 (A49 : St) (z : Int) (u : St) : Prop := tr_d_X12_operand_8 A49 z u
theorem u_d_X12_operand_8 {A49 : St} {z : Int} {u : St} (h : tr_d_X12_operand_8 A49 z u) : d_X12_operand_8 A49 z u := h
abbrev tr_d_X12_operand_7 (z151 : Int) (A : St) (z : Int) (u : St) (A162 : St) : Prop := ((IM A162) ∧ ((((A162 0 8) ≤ 0) ∧ (∃ A166 : St, q_X12_add z151 (A 0 6) A162 A166 ∧ (∃ A170 : St, q_X12_ahead A166 A170 ∧ (z = 1 ∧ u = A170)))) ∨ ((¬ (A162 0 8) ≤ 0) ∧ (z = 1 ∧ u = A162))))
def d_X12_operand_7 (z151 : Int) (A : St) (z : Int) (u : St) (A162 : St) : Prop := tr_d_X12_operand_7 z151 A z u A162
theorem u_d_X12_operand_7 {z151 : Int} {A : St} {z : Int} {u : St} {A162 : St} (h : tr_d_X12_operand_7 z151 A z u A162) : d_X12_operand_7 z151 A z u A162 := h
abbrev tr_d_X12_operand_6 (A : St) (A49 : St) (z : Int) (u : St) (z151 : Int) : Prop := ((-1 ≤ z151 ∧ z151 ≤ 4) ∧ (((¬ z151 = (-1)) ∧ (d_X12_operand_7 z151 A z u A49)) ∨ ((z151 = (-1)) ∧ (∃ A158 : St, q_X12_blame 1 (A 0 4) A49 A158 ∧ (d_X12_operand_7 z151 A z u A158)))))
def d_X12_operand_6 (A : St) (A49 : St) (z : Int) (u : St) (z151 : Int) : Prop := tr_d_X12_operand_6 A A49 z u z151
theorem u_d_X12_operand_6 {A : St} {A49 : St} {z : Int} {u : St} {z151 : Int} (h : tr_d_X12_operand_6 A A49 z u z151) : d_X12_operand_6 A A49 z u z151 := h
abbrev tr_d_X12_operand_5 (A : St) (A49 : St) (z : Int) (u : St) : Prop := (∃ z120 : Int, q_X12_isSign 40 A49 z120 ∧ (((z120 = 0) ∧ (∃ z124 : Int, q_X12_isWord 7170414 A49 z124 ∧ (((¬ z124 = 0) ∧ (d_X12_operand_8 A49 z u)) ∨ ((z124 = 0) ∧ (∃ z129 : Int, q_X12_isWord 7168376 A49 z129 ∧ (((z129 = 0) ∧ (((¬ (A 0 3) = 2) ∧ (∃ z135 : Int, q_X12_isWord 7825519 A49 z135 ∧ (((z135 = 0) ∧ (∃ z139 : Int, q_X12_isWord 1936748404 A49 z139 ∧ (((z139 = 0) ∧ (∃ z143 : Int, q_X12_isWord 1801812339 A49 z143 ∧ (((z143 = 0) ∧ (∃ z147 : Int, q_X12_isWord 109317377451364 A49 z147 ∧ (((z147 = 0) ∧ (d_X12_operand_6 A A49 z u (-1))) ∨ ((¬ z147 = 0) ∧ (d_X12_operand_6 A A49 z u 4))))) ∨ ((¬ z143 = 0) ∧ (d_X12_operand_6 A A49 z u 3))))) ∨ ((¬ z139 = 0) ∧ (d_X12_operand_6 A A49 z u 2))))) ∨ ((¬ z135 = 0) ∧ (d_X12_operand_6 A A49 z u 1))))) ∨ (((A 0 3) = 2) ∧ (d_X12_operand_6 A A49 z u 0)))) ∨ ((¬ z129 = 0) ∧ (d_X12_operand_8 A49 z u)))))))) ∨ ((¬ z120 = 0) ∧ (∃ A253 : St, q_X12_opens 2 A49 A253 ∧ (z = 0 ∧ u = A253)))))
def d_X12_operand_5 (A : St) (A49 : St) (z : Int) (u : St) : Prop := tr_d_X12_operand_5 A A49 z u
theorem u_d_X12_operand_5 {A : St} {A49 : St} {z : Int} {u : St} (h : tr_d_X12_operand_5 A A49 z u) : d_X12_operand_5 A A49 z u := h
abbrev tr_d_X12_operand_4 (z11 : Int) (A : St) (A49 : St) (z : Int) (u : St) : Prop := (((z11 = 0) ∧ (d_X12_operand_5 A A49 z u)) ∨ ((¬ z11 = 0) ∧ (∃ z76 : Int, q_X12_isWord 6384748 A49 z76 ∧ (((z76 = 0) ∧ (d_X12_operand_5 A A49 z u)) ∨ ((¬ z76 = 0) ∧ (∃ A80 : St, q_X12_add 9 0 A49 A80 ∧ (∃ A84 : St, A84 = (stA A80 36 ((A 0 53) - 1).toNat 2) ∧ (∃ A85 : St, q_X12_ahead A84 A85 ∧ (z = 1 ∧ u = A85)))))))))
def d_X12_operand_4 (z11 : Int) (A : St) (A49 : St) (z : Int) (u : St) : Prop := tr_d_X12_operand_4 z11 A A49 z u
theorem u_d_X12_operand_4 {z11 : Int} {A : St} {A49 : St} {z : Int} {u : St} (h : tr_d_X12_operand_4 z11 A A49 z u) : d_X12_operand_4 z11 A A49 z u := h
abbrev tr_d_X12_operand_3 (z11 : Int) (A : St) (z : Int) (u : St) : Prop := (∃ A49 : St, A49 = (stA A 37 ((A 0 53) - 1).toNat 0) ∧ (((z11 = 0) ∧ (d_X12_operand_4 z11 A A49 z u)) ∨ ((¬ z11 = 0) ∧ (∃ z59 : Int, q_X12_isSign 91 A49 z59 ∧ (((z59 = 0) ∧ (d_X12_operand_4 z11 A A49 z u)) ∨ ((¬ z59 = 0) ∧ (∃ A63 : St, q_X12_opens 5 A49 A63 ∧ (z = 0 ∧ u = A63))))))))
def d_X12_operand_3 (z11 : Int) (A : St) (z : Int) (u : St) : Prop := tr_d_X12_operand_3 z11 A z u
theorem u_d_X12_operand_3 {z11 : Int} {A : St} {z : Int} {u : St} (h : tr_d_X12_operand_3 z11 A z u) : d_X12_operand_3 z11 A z u := h
abbrev tr_d_X12_operand_2 (A : St) (z : Int) (u : St) (z11 : Int) : Prop := ((0 ≤ z11 ∧ z11 ≤ 1) ∧ (((z11 = 0) ∧ (d_X12_operand_3 z11 A z u)) ∨ ((¬ z11 = 0) ∧ (∃ z18 : Int, q_X12_isWord 7237492 A z18 ∧ (((z18 = 0) ∧ (d_X12_operand_3 z11 A z u)) ∨ ((¬ z18 = 0) ∧ (∃ A22 : St, q_X12_holdsBack 22 A A22 ∧ (∃ A25 : St, q_X12_ahead A22 A25 ∧ (z = 0 ∧ u = A25)))))))))
def d_X12_operand_2 (A : St) (z : Int) (u : St) (z11 : Int) : Prop := tr_d_X12_operand_2 A z u z11
theorem u_d_X12_operand_2 {A : St} {z : Int} {u : St} {z11 : Int} (h : tr_d_X12_operand_2 A z u z11) : d_X12_operand_2 A z u z11 := h
abbrev tr_d_X12_operand_1 (A : St) (z : Int) (u : St) : Prop := (d_X12_operand_2 A z u 0)
def d_X12_operand_1 (A : St) (z : Int) (u : St) : Prop := tr_d_X12_operand_1 A z u
theorem u_d_X12_operand_1 {A : St} {z : Int} {u : St} (h : tr_d_X12_operand_1 A z u) : d_X12_operand_1 A z u := h
abbrev tr_r_X12_operand (A : St) (z : Int) (u : St) : Prop := (∃ z1 : Int, z1 = A 35 ((A 0 53) - 1).toNat ∧ (∃ z2 : Int, q_X12_isTest z1 A z2 ∧ (((z2 = 0) ∧ (d_X12_operand_1 A z u)) ∨ ((¬ z2 = 0) ∧ (∃ z8 : Int, z8 = A 37 ((A 0 53) - 1).toNat ∧ (((z8 = 0) ∧ (d_X12_operand_1 A z u)) ∨ ((¬ z8 = 0) ∧ (d_X12_operand_2 A z u 1))))))))
def r_X12_operand (A : St) (z : Int) (u : St) : Prop := tr_r_X12_operand A z u
theorem u_r_X12_operand {A : St} {z : Int} {u : St} (h : tr_r_X12_operand A z u) : r_X12_operand A z u := h
def q_X12_operand (A : St) (z : Int) (u : St) : Prop := r_X12_operand A z u ∧ IM u ∧ fr [33, 34, 35, 36, 37, 38, 39, 40] [3, 4, 5, 6, 7, 8, 9, 46, 53, 54, 56] A u ∧ CI u ∧ ((0 ≤ z ∧ z ≤ 1) ∧ (Hd (u 0 8 = 0 → RI z u ∧ (PR u ∧ SP u) ∧ A 0 4 + 1 ≤ u 0 4)))
def ws_mb_X12_operand : List Cond := .code yX12_operand cX12_operand 4 (some .boolean) :: WX
set_option maxHeartbeats 4000000 in
set_option maxRecDepth 100000 in
theorem mb_X12_operand (l : Launch) (dC : Nat → ClassId) (dI : Nat → Nat → Nat) (cB cI cJ cZ cQ : ClassId) (q : Nat → Nat) (A : St) (hI : IM A) (hp0 : RI 0 A) (hp1 : A 0 8 = 0) (hp2 : PR A) (hp3 : SP A) (hcCI : CI A) : XMi l yX12_operand ws_mb_X12_operand ({ frames := 3, cells := 0, slots := 0, locals := 68 } : Room) (dC, dI) (tyA cB cI cJ cZ cQ) (WM cI cJ cZ q) A [.ref (q 0)] (fun z u => r_X12_operand A z u ∧ IM u ∧ fr [33, 34, 35, 36, 37, 38, 39, 40] [3, 4, 5, 6, 7, 8, 9, 46, 53, 54, 56] A u ∧ CI u ∧ ((0 ≤ z ∧ z ≤ 1) ∧ (Hd (u 0 8 = 0 → RI z u ∧ (PR u ∧ SP u) ∧ A 0 4 + 1 ≤ u 0 4)))) := by
  refine x_metz (cc := cX12_operand) (maxL := 4) WM_adr (by decide +kernel) rfl (Nat.le_of_ble_eq_true rfl) (fun z u h => h.2.2.2.2.1) (fun p e s m below meth c Q AS ls hx hb hml hown hts hK hDD hA0 hP hS hl RET => ?_)
  have hown : s.vm.findClass RX12 = some m.cls := hown
  have hl : lv_has ls 4 [(0, .ref (q 0))] := hl
  have hiX12 : ∀ w ∈ u_ws RX12 TX12 85, w ∈ ws_mb_X12_operand := fun w h => List.mem_cons_of_mem _ (wx_lay w h)
  obtain ⟨H, hHe⟩ : ∃ H : Heap, H = s.heap := ⟨_, rfl⟩
  rw [← hHe] at hP
  have hS : va_S AS s.heap H [] := by rw [hHe]; exact hS
  suffices hgo : ∀ locs : List Loc, va_S AS s.heap H locs → W p l e (headSpec ws_mb_X12_operand ({ frames := 3, cells := 0, slots := 0, locals := 68 } : Room)).room s m [.ref (q 0)].toArray below meth c H locs 0 0 Q (F0 m 0 ls []) by
    have := hgo [] hS
    rw [hHe] at this
    exact this
  clear hS hHe
  intro locs hS
  have hI0 := hI
  have hdp := RI.deep hp0 hI0
  have hrm := RI.room hp0 hI0
  have r_A_0_3 : (0 : Int) ≤ (A 0 3) ∧ (A 0 3) ≤ 3 := hI 0 3
  have r_A_0_4 : (0 : Int) ≤ (A 0 4) ∧ (A 0 4) ≤ 1600 := hI 0 4
  have r_A_0_5 : (0 : Int) ≤ (A 0 5) ∧ (A 0 5) ≤ 1600 := hI 0 5
  have r_A_0_7 : (-9223372036854775808 : Int) ≤ (A 0 7) ∧ (A 0 7) ≤ 9223372036854775807 := hI 0 7
  have r_A_0_8 : (0 : Int) ≤ (A 0 8) ∧ (A 0 8) ≤ 5 := hI 0 8
  have r_A_0_46 : (0 : Int) ≤ (A 0 46) ∧ (A 0 46) ≤ 1600 := hI 0 46
  have r_A_0_47 : (0 : Int) ≤ (A 0 47) ∧ (A 0 47) ≤ 1 := hI 0 47
  have r_A_0_53 : (0 : Int) ≤ (A 0 53) ∧ (A 0 53) ≤ 20 := hI 0 53
  have r_A_0_54 : (0 : Int) ≤ (A 0 54) ∧ (A 0 54) ≤ 8 := hI 0 54
  have r_A_0_56 : (0 : Int) ≤ (A 0 56) ∧ (A 0 56) ≤ 500 := hI 0 56
  refine lv_aload_n hx hb (dk_at dkX12_operand_0 0 rfl) rfl (lv_at hl 0 rfl) ?_
  refine va_get (D := (dC, dI)) (ci := 12) (v := .int (iI (A 0 53))) (C := RX12) (T := TX12) (N := 85) hx hb hts hiX12 hown hK hP 0 wm0 rfl 53 (by decide) (hts _ (List.mem_cons_of_mem _ wlq_1_37)) (fun _ h9 => h9) rfl (dk_at dkX12_operand_0 1 rfl) ?_
  refine lv_iconst (v := iI 1) hx hb (dk_at dkX12_operand_0 2 rfl) (by decide +kernel) ?_
  refine x_subv (v := (A 0 53) - 1) hx hb (dk_at dkX12_operand_0 3 rfl) (by omega) ?_
  refine lv_istore_n (lv' := [(1, .int (iI ((A 0 53) - 1))), (0, .ref (q 0))]) hx hb (dk_at dkX12_operand_0 4 rfl) rfl hl (by decide) rfl (fun ls hl => ?_)
  refine lv_aload_n hx hb (dk_at dkX12_operand_0 5 rfl) rfl (lv_at hl 1 rfl) ?_
  refine va_get (D := (dC, dI)) (ci := 12) (v := .ref (q 35)) (C := RX12) (T := TX12) (N := 85) hx hb hts hiX12 hown hK hP 0 wm0 rfl 48 (by decide) (hts _ (List.mem_cons_of_mem _ wlq_1_46)) (fun _ h9 => h9) rfl (dk_at dkX12_operand_0 6 rfl) ?_
  refine lv_iload_n hx hb (dk_at dkX12_operand_0 7 rfl) rfl (lv_at hl 0 rfl) ?_
  refine x_iald hx hb hK hP 35 1 wm35 rfl (by omega) (by decide) (dk_at dkX12_operand_0 8 rfl) (fun z1 hz1 => ?_)
  have rz1 : (0 : Int) ≤ z1 ∧ z1 ≤ 5 := by rw [hz1]; exact hI 35 _
  have gz1 := Hd.mk hz1
  have hz1 : z1 = A 35 ((A 0 53) - 1).toNat := hz1
  refine x_callSi (As := [.int (iI z1)]) (rest := []) ⟨hx, hb, hml, hown, hts⟩ (mc_X12_isTest l dC dI cB cI cJ cZ cQ q _ z1 hI (rb rz1 (by decide) (by decide))) (va_cwS 1 hts (goodS wlq_1_57 wlq_1_58 wlq_0_8 wlq_1_54) rfl rfl rfl (by decide +kernel) ⟨Nat.le_of_ble_eq_true rfl, Nat.le_of_ble_eq_true rfl⟩) hK hDD hA0 hP hS rfl hl.1 (Nat.le_of_ble_eq_true rfl) (dk_at dkX12_operand_0 9 rfl) (fun z2 A3 H locs hw4 hP hS => ?_)
  obtain ⟨rfl, hw4⟩ := hw4
  have ghw4 : q_X12_isTest z1 A z2 := hw4
  have hw4 := hw4.2
  have J33_7 : ∀ (z11 : Int) (H : Heap) (locs : List Loc) (ls : Array Slot), (0 ≤ z11 ∧ z11 ≤ 1) → ((z11 = 1 ∧ ¬ z2 = 0) ∨ (z11 = 0)) → (Hd (z11 = 1 → A 37 (A 0 53 - 1).toNat = 1)) → (∀ (z : Int) (u : St), (d_X12_operand_2 A z u z11) → r_X12_operand A z u) → va_P (dC, dI) vwCl (WM cI cJ cZ q A) H → va_S AS s.heap H locs → lv_has ls 4 [(1, .int (iI ((A 0 53) - 1))), (0, .ref (q 0))] → W p l e (headSpec ws_mb_X12_operand ({ frames := 3, cells := 0, slots := 0, locals := 68 } : Room)).room s m [.ref (q 0)].toArray below meth c H locs 0 0 Q (F0 m 33 ls [.int (iI z11)]) := by
    intro z11 H locs ls f13 f14 f15 hk2 hP hS hl
    refine lv_istore_n (lv' := [(2, .int (iI z11)), (1, .int (iI ((A 0 53) - 1))), (0, .ref (q 0))]) hx hb (dk_at dkX12_operand_1 3 rfl) rfl hl (by decide) rfl (fun ls hl => ?_)
    refine lv_iload_n hx hb (dk_at dkX12_operand_1 4 rfl) rfl (lv_at hl 0 rfl) ?_
    have J60_17 : ∀ (H : Heap) (locs : List Loc) (ls : Array Slot), (∀ (z : Int) (u : St), (d_X12_operand_3 z11 A z u) → r_X12_operand A z u) → va_P (dC, dI) vwCl (WM cI cJ cZ q A) H → va_S AS s.heap H locs → lv_has ls 4 [(2, .int (iI z11)), (1, .int (iI ((A 0 53) - 1))), (0, .ref (q 0))] → W p l e (headSpec ws_mb_X12_operand ({ frames := 3, cells := 0, slots := 0, locals := 68 } : Room)).room s m [.ref (q 0)].toArray below meth c H locs 0 0 Q (F0 m 60 ls []) := by
      intro H locs ls hk3 hP hS hl
      refine lv_aload_n hx hb (dk_at dkX12_operand_2 1 rfl) rfl (lv_at hl 2 rfl) ?_
      refine va_get (D := (dC, dI)) (ci := 12) (v := .ref (q 37)) (C := RX12) (T := TX12) (N := 85) hx hb hts hiX12 hown hK hP 0 wm0 rfl 50 (by decide) (hts _ (List.mem_cons_of_mem _ wlq_1_48)) (fun _ h9 => h9) rfl (dk_at dkX12_operand_2 2 rfl) ?_
      refine lv_iload_n hx hb (dk_at dkX12_operand_2 3 rfl) rfl (lv_at hl 1 rfl) ?_
      refine lv_iconst (v := iI 0) hx hb (dk_at dkX12_operand_2 4 rfl) (by decide +kernel) ?_
      refine x_zast hx hb hK hP hDD hS 37 3 wm37 rfl (by omega) (by decide) (dk_at dkX12_operand_2 5 rfl) (by omega) ws37 (fun H locs hP hS => ?_)
      have hI := hI.st (j := 37) (i := ((A 0 53) - 1).toNat) (v := 0) (show (0 : Int) ≤ 0 ∧ 0 ≤ 1 from (by omega))
      obtain ⟨A49, hA49⟩ : ∃ A49 : St, A49 = (stA A 37 ((A 0 53) - 1).toNat 0) := ⟨_, rfl⟩
      rw [← hA49] at hP hI
      have e37 : A49 37 = up (A 37) (A 0 53 - 1).toNat 0 := by rw [hA49]; rfl
      have e_A49_3 : A49 0 3 = (A 0 3) := by rw [hA49]; exact rfl
      have e_A49_4 : A49 0 4 = (A 0 4) := by rw [hA49]; exact rfl
      have e_A49_5 : A49 0 5 = (A 0 5) := by rw [hA49]; exact rfl
      have e_A49_7 : A49 0 7 = (A 0 7) := by rw [hA49]; exact rfl
      have e_A49_8 : A49 0 8 = (A 0 8) := by rw [hA49]; exact rfl
      have e_A49_46 : A49 0 46 = (A 0 46) := by rw [hA49]; exact rfl
      have e_A49_47 : A49 0 47 = (A 0 47) := by rw [hA49]; exact rfl
      have e_A49_53 : A49 0 53 = (A 0 53) := by rw [hA49]; exact rfl
      have e_A49_54 : A49 0 54 = (A 0 54) := by rw [hA49]; exact rfl
      have e_A49_56 : A49 0 56 = (A 0 56) := by rw [hA49]; exact rfl
      have ca50 : A49 29 = A 29 := by rw [hA49]; exact rfl
      have ca51 : A49 31 = A 31 := by rw [hA49]; exact rfl
      have ca52 : A49 33 = A 33 := by rw [hA49]; exact rfl
      have ca53 : A49 35 = A 35 := by rw [hA49]; exact rfl
      have ca54 : A49 39 = A 39 := by rw [hA49]; exact rfl
      have ca55 : A49 40 = A 40 := by rw [hA49]; exact rfl
      have ca56 : A49 1 = A 1 := by rw [hA49]; exact rfl
      have hri1 : RI 0 A49 := RI.beg hp0 hI0 ⟨ca50, ca51, ca52, ca53, e37, ca54, ca55, e_A49_46, e_A49_47, e_A49_53, e_A49_54, e_A49_56⟩ ca56 (by omega) (by omega) (by omega) (by omega)
      have hb1 : A49 37 (A49 0 53 - 1).toNat = 0 := by rw [show A49 0 53 = A 0 53 by omega, e37, up_same]
      have hI1 := hI
      refine lv_iload_n hx hb (dk_at dkX12_operand_2 6 rfl) rfl (lv_at hl 0 rfl) ?_
      have J87_58 : ∀ (H : Heap) (locs : List Loc) (ls : Array Slot), (∀ (z : Int) (u : St), (d_X12_operand_4 z11 A A49 z u) → r_X12_operand A z u) → va_P (dC, dI) vwCl (WM cI cJ cZ q A49) H → va_S AS s.heap H locs → lv_has ls 4 [(2, .int (iI z11)), (1, .int (iI ((A 0 53) - 1))), (0, .ref (q 0))] → W p l e (headSpec ws_mb_X12_operand ({ frames := 3, cells := 0, slots := 0, locals := 68 } : Room)).room s m [.ref (q 0)].toArray below meth c H locs 0 0 Q (F0 m 87 ls []) := by
        intro H locs ls hk4 hP hS hl
        refine lv_iload_n hx hb (dk_at dkX12_operand_3 1 rfl) rfl (lv_at hl 0 rfl) ?_
        have J121_75 : ∀ (H : Heap) (locs : List Loc) (ls : Array Slot), (∀ (z : Int) (u : St), (d_X12_operand_5 A A49 z u) → r_X12_operand A z u) → va_P (dC, dI) vwCl (WM cI cJ cZ q A49) H → va_S AS s.heap H locs → lv_has ls 4 [(2, .int (iI z11)), (1, .int (iI ((A 0 53) - 1))), (0, .ref (q 0))] → W p l e (headSpec ws_mb_X12_operand ({ frames := 3, cells := 0, slots := 0, locals := 68 } : Room)).room s m [.ref (q 0)].toArray below meth c H locs 0 0 Q (F0 m 121 ls []) := by
          intro H locs ls hk5 hP hS hl
          refine lv_aload_n hx hb (dk_at dkX12_operand_4 4 rfl) rfl (lv_at hl 2 rfl) ?_
          refine lv_bipush (v := iI 40) hx hb (dk_at dkX12_operand_4 5 rfl) (by decide +kernel) ?_
          have e_A49_6 : A49 0 6 = (A 0 6) := by rw [hA49]; exact rfl
          have r_A_0_6 : (-2147483648 : Int) ≤ (A 0 6) ∧ (A 0 6) ≤ 2147483647 := by rw [← e_A49_6]; exact hI 0 6
          refine x_calli (As := [.int (iI 40)]) (rest := []) ⟨hx, hb, hml, hown, hts⟩ (mb_X12_isSign l dC dI cB cI cJ cZ cQ q _ 40 hI ⟨by decide, by decide⟩) (cwV 1 hts (goodV wlq_0_37 wlq_0_38 wlq_0_39 wlq_0_8 wlq_0_34) rfl rfl rfl (by decide +kernel) ⟨Nat.le_of_ble_eq_true rfl, Nat.le_of_ble_eq_true rfl⟩) hK hDD hA0 hP hS 0 12 wm0 rfl rfl hl.1 (Nat.le_of_ble_eq_true rfl) (dk_at dkX12_operand_4 6 rfl) (fun z120 A121 H locs hw122 hP hS => ?_)
          obtain ⟨rfl, hw122⟩ := hw122
          have ghw122 : q_X12_isSign 40 A49 z120 := hw122
          have hw122 := hw122.2
          have rz120 : 0 ≤ z120 ∧ z120 ≤ 1 := hw122.1
          replace hw122 := Hd.mk hw122.2
          refine lv_if_eq (tgt := 137) hx hb (dk_at dkX12_operand_4 7 rfl) (by decide) (fun c123 => ?_) (fun c123 => ?_)
          · have c123 : z120 = 0 := (i_eq0 (rb rz120 (by decide) (by decide))).mp c123
            refine lv_aload_n hx hb (dk_at dkX12_operand_4 13 rfl) rfl (lv_at hl 2 rfl) ?_
            refine lv_ldc2 (v := 7170414) hx hb hown (hts _ (List.mem_cons_of_mem _ wlq_1_8)) (dk_at dkX12_operand_4 14 rfl) ?_
            refine tp_l (y := jI 7170414) (by decide +kernel) ?_
            refine x_calli (As := [.long (jI 7170414)]) (rest := []) ⟨hx, hb, hml, hown, hts⟩ (mb_X12_isWord l dC dI cB cI cJ cZ cQ q _ 7170414 hI ⟨by decide, by decide⟩) (cwV 1 hts (goodV wlq_1_59 wlq_2_0 wlq_2_1 wlq_0_8 wlq_0_35) rfl rfl rfl (by decide +kernel) ⟨Nat.le_of_ble_eq_true rfl, Nat.le_of_ble_eq_true rfl⟩) hK hDD hA0 hP hS 0 12 wm0 rfl rfl hl.1 (Nat.le_of_ble_eq_true rfl) (dk_at dkX12_operand_4 15 rfl) (fun z124 A125 H locs hw126 hP hS => ?_)
            obtain ⟨rfl, hw126⟩ := hw126
            have ghw126 : q_X12_isWord 7170414 A49 z124 := hw126
            have hw126 := hw126.2
            have rz124 : 0 ≤ z124 ∧ z124 ≤ 1 := hw126.1
            replace hw126 := Hd.mk hw126.2
            have J157_128 : ∀ (H : Heap) (locs : List Loc) (ls : Array Slot), ((A49 0 3) = 1) → (∀ (z : Int) (u : St), (d_X12_operand_8 A49 z u) → r_X12_operand A z u) → va_P (dC, dI) vwCl (WM cI cJ cZ q A49) H → va_S AS s.heap H locs → lv_has ls 4 [(2, .int (iI z11)), (1, .int (iI ((A 0 53) - 1))), (0, .ref (q 0))] → W p l e (headSpec ws_mb_X12_operand ({ frames := 3, cells := 0, slots := 0, locals := 68 } : Room)).room s m [.ref (q 0)].toArray below meth c H locs 0 0 Q (F0 m 157 ls []) := by
              intro H locs ls f194 hk8 hP hS hl
              refine lv_aload_n hx hb (dk_at dkX12_operand_5 5 rfl) rfl (lv_at hl 2 rfl) ?_
              refine lv_ldc2 (v := 7170414) hx hb hown (hts _ (List.mem_cons_of_mem _ wlq_1_8)) (dk_at dkX12_operand_5 6 rfl) ?_
              refine tp_l (y := jI 7170414) (by decide +kernel) ?_
              refine x_calli (As := [.long (jI 7170414)]) (rest := []) ⟨hx, hb, hml, hown, hts⟩ (mb_X12_isWord l dC dI cB cI cJ cZ cQ q _ 7170414 hI ⟨by decide, by decide⟩) (cwV 1 hts (goodV wlq_1_59 wlq_2_0 wlq_2_1 wlq_0_8 wlq_0_35) rfl rfl rfl (by decide +kernel) ⟨Nat.le_of_ble_eq_true rfl, Nat.le_of_ble_eq_true rfl⟩) hK hDD hA0 hP hS 0 12 wm0 rfl rfl hl.1 (Nat.le_of_ble_eq_true rfl) (dk_at dkX12_operand_5 7 rfl) (fun z195 A196 H locs hw197 hP hS => ?_)
              obtain ⟨rfl, hw197⟩ := hw197
              have ghw197 : q_X12_isWord 7170414 A49 z195 := hw197
              have hw197 := hw197.2
              have rz195 : 0 ≤ z195 ∧ z195 ≤ 1 := hw197.1
              replace hw197 := Hd.mk hw197.2
              have ez195 : z195 = z124 := by have a := hw126.out; have b := hw197.out; omega
              have J174_199 : ∀ (z200 : Int) (H : Heap) (locs : List Loc) (ls : Array Slot), (15 ≤ z200 ∧ z200 ≤ 16) → ((z200 = 16 ∧ z195 = 0) ∨ (z200 = 15 ∧ ¬ z195 = 0)) → (∀ (z : Int) (u : St), (d_X12_operand_9 A49 z u z200) → r_X12_operand A z u) → va_P (dC, dI) vwCl (WM cI cJ cZ q A49) H → va_S AS s.heap H locs → lv_has ls 4 [(2, .int (iI z11)), (1, .int (iI ((A 0 53) - 1))), (0, .ref (q 0))] → W p l e (headSpec ws_mb_X12_operand ({ frames := 3, cells := 0, slots := 0, locals := 68 } : Room)).room s m [.ref (q 0)].toArray below meth c H locs 0 0 Q (F0 m 174 ls [.int (iI z200)]) := by
                intro z200 H locs ls f202 f203 hk9 hP hS hl
                refine lv_istore_n (lv' := [(3, .int (iI z200)), (2, .int (iI z11)), (1, .int (iI ((A 0 53) - 1))), (0, .ref (q 0))]) hx hb (dk_at dkX12_operand_5 12 rfl) rfl hl (by decide) rfl (fun ls hl => ?_)
                refine lv_aload_n hx hb (dk_at dkX12_operand_5 13 rfl) rfl (lv_at hl 3 rfl) ?_
                refine x_callv (As := []) (rest := []) ⟨hx, hb, hml, hown, hts⟩ (mb_X12_ahead l dC dI cB cI cJ cZ cQ q _ hI) (cwV 0 hts (goodV wlq_0_40 wlq_0_41 wlq_0_42 wlq_0_8 wlq_0_20) rfl rfl rfl (by decide +kernel) ⟨Nat.le_of_ble_eq_true rfl, Nat.le_of_ble_eq_true rfl⟩) hK hDD hA0 hP hS 0 12 wm0 rfl rfl hl.1 (Nat.le_of_ble_eq_true rfl) (dk_at dkX12_operand_5 14 rfl) (fun A204 H locs hw205 hP hS => ?_)
                have ghw205 : q_X12_ahead A49 A204 := hw205
                obtain ⟨_, hI, hf206, hw205⟩ := hw205
                have r_A204_0_3 : (0 : Int) ≤ (A204 0 3) ∧ (A204 0 3) ≤ 3 := hI 0 3
                have r_A204_0_4 : (0 : Int) ≤ (A204 0 4) ∧ (A204 0 4) ≤ 1600 := hI 0 4
                have r_A204_0_5 : (0 : Int) ≤ (A204 0 5) ∧ (A204 0 5) ≤ 1600 := hI 0 5
                have r_A204_0_8 : (0 : Int) ≤ (A204 0 8) ∧ (A204 0 8) ≤ 5 := hI 0 8
                have e_A204_46 : A204 0 46 = (A 0 46) := (hf206.2 46 rfl).trans e_A49_46
                have e_A204_47 : A204 0 47 = (A 0 47) := (hf206.2 47 rfl).trans e_A49_47
                have e_A204_53 : A204 0 53 = (A 0 53) := (hf206.2 53 rfl).trans e_A49_53
                have e_A204_54 : A204 0 54 = (A 0 54) := (hf206.2 54 rfl).trans e_A49_54
                have e_A204_56 : A204 0 56 = (A 0 56) := (hf206.2 56 rfl).trans e_A49_56
                have r_A204_0_7 : (-9223372036854775808 : Int) ≤ (A204 0 7) ∧ (A204 0 7) ≤ 9223372036854775807 := hI 0 7
                have ca207 : A204 29 = A49 29 := (hf206.1 29 (by decide) rfl)
                have ca208 : A204 31 = A49 31 := (hf206.1 31 (by decide) rfl)
                have ca209 : A204 33 = A49 33 := (hf206.1 33 (by decide) rfl)
                have ca210 : A204 35 = A49 35 := (hf206.1 35 (by decide) rfl)
                have ca211 : A204 37 = A49 37 := (hf206.1 37 (by decide) rfl)
                have ca212 : A204 39 = A49 39 := (hf206.1 39 (by decide) rfl)
                have ca213 : A204 40 = A49 40 := (hf206.1 40 (by decide) rfl)
                have hri2 : RI 0 A204 := RI.skip hri1 (by omega) ⟨ca207, ca208, ca209, ca210, ca211, ca212, ca213, (e_A204_46.trans e_A49_46.symm), (e_A204_47.trans e_A49_47.symm), (e_A204_53.trans e_A49_53.symm), (e_A204_54.trans e_A49_54.symm), (e_A204_56.trans e_A49_56.symm)⟩ (by omega) hw205.2.1 hw205.2.2.1
                have ca214 : A204 37 = A49 37 := (hf206.1 37 (by decide) rfl)
                have hb2 : A204 37 (A204 0 53 - 1).toNat = 0 := by rw [show A204 0 53 = A49 0 53 by omega, ca214]; exact hb1
                refine lv_aload_n hx hb (dk_at dkX12_operand_5 15 rfl) rfl (lv_at hl 3 rfl) ?_
                refine lv_bipush (v := iI 40) hx hb (dk_at dkX12_operand_6 0 rfl) (by decide +kernel) ?_
                have r_A204_0_6 : (-2147483648 : Int) ≤ (A204 0 6) ∧ (A204 0 6) ≤ 2147483647 := hI 0 6
                refine x_calli (As := [.int (iI 40)]) (rest := []) ⟨hx, hb, hml, hown, hts⟩ (mb_X12_isSign l dC dI cB cI cJ cZ cQ q _ 40 hI ⟨by decide, by decide⟩) (cwV 1 hts (goodV wlq_0_37 wlq_0_38 wlq_0_39 wlq_0_8 wlq_0_34) rfl rfl rfl (by decide +kernel) ⟨Nat.le_of_ble_eq_true rfl, Nat.le_of_ble_eq_true rfl⟩) hK hDD hA0 hP hS 0 12 wm0 rfl rfl hl.1 (Nat.le_of_ble_eq_true rfl) (dk_at dkX12_operand_6 1 rfl) (fun z215 A216 H locs hw217 hP hS => ?_)
                obtain ⟨rfl, hw217⟩ := hw217
                have ghw217 : q_X12_isSign 40 A204 z215 := hw217
                have hw217 := hw217.2
                have rz215 : 0 ≤ z215 ∧ z215 ≤ 1 := hw217.1
                replace hw217 := Hd.mk hw217.2
                have J197_219 : ∀ (A224 : St) (H : Heap) (locs : List Loc) (ls : Array Slot), (Hd ((A224 0 8) = 0 → (RI 0 A224 ∧ A224 0 3 ≠ 0 ∧ A224 37 (A224 0 53 - 1).toNat = 0) ∧ A204 0 8 = 0)) → (∀ (z : Int) (u : St), (d_X12_operand_10 z200 z u A224) → r_X12_operand A z u) → IM A224 → fr [] [8, 9] A204 A224 → va_P (dC, dI) vwCl (WM cI cJ cZ q A224) H → va_S AS s.heap H locs → lv_has ls 4 [(3, .int (iI z200)), (2, .int (iI z11)), (1, .int (iI ((A 0 53) - 1))), (0, .ref (q 0))] → W p l e (headSpec ws_mb_X12_operand ({ frames := 3, cells := 0, slots := 0, locals := 68 } : Room)).room s m [.ref (q 0)].toArray below meth c H locs 0 0 Q (F0 m 197 ls []) := by
                  intro A224 H locs ls f225 hk10 hI hj223 hP hS hl
                  have gI226 : Hd (IM A224) := Hd.mk hI
                  refine lv_aload_n hx hb (dk_at dkX12_operand_6 8 rfl) rfl (lv_at hl 3 rfl) ?_
                  refine lv_iconst (v := iI 3) hx hb (dk_at dkX12_operand_6 9 rfl) (by decide +kernel) ?_
                  have e_A224_3 : A224 0 3 = (A204 0 3) := (hj223.2 3 rfl)
                  have r_A224_0_8 : (0 : Int) ≤ (A224 0 8) ∧ (A224 0 8) ≤ 5 := hI 0 8
                  have e_A224_53 : A224 0 53 = (A 0 53) := (hj223.2 53 rfl).trans e_A204_53
                  have e_A224_5 : A224 0 5 = (A204 0 5) := (hj223.2 5 rfl)
                  have e_A224_56 : A224 0 56 = (A 0 56) := (hj223.2 56 rfl).trans e_A204_56
                  refine x_callv (As := [.int (iI 3)]) (rest := []) ⟨hx, hb, hml, hown, hts⟩ (mb_X12_opens l dC dI cB cI cJ cZ cQ q _ 3 hI ⟨by decide, by decide⟩ (by exact Hd.mk (fun h => (f225.out h).1)) (by omega)) (cwV 1 hts (goodV wlq_2_5 wlq_2_6 wlq_2_7 wlq_0_8 wlq_1_49) rfl rfl rfl (by decide +kernel) ⟨Nat.le_of_ble_eq_true rfl, Nat.le_of_ble_eq_true rfl⟩) hK hDD hA0 hP hS 0 12 wm0 rfl rfl hl.1 (Nat.le_of_ble_eq_true rfl) (dk_at dkX12_operand_6 10 rfl) (fun A227 H locs hw228 hP hS => ?_)
                  have ghw228 : q_X12_opens 3 A224 A227 := hw228
                  obtain ⟨_, hI, hf229, hw228⟩ := hw228
                  have r_A227_0_4 : (0 : Int) ≤ (A227 0 4) ∧ (A227 0 4) ≤ 1600 := hI 0 4
                  have r_A227_0_8 : (0 : Int) ≤ (A227 0 8) ∧ (A227 0 8) ≤ 5 := hI 0 8
                  have r_A227_0_53 : (0 : Int) ≤ (A227 0 53) ∧ (A227 0 53) ≤ 20 := hI 0 53
                  refine lv_aload_n hx hb (dk_at dkX12_operand_6 11 rfl) rfl (lv_at hl 3 rfl) ?_
                  refine va_get (D := (dC, dI)) (ci := 12) (v := .int (iI (A227 0 8))) (C := RX12) (T := TX12) (N := 85) hx hb hts hiX12 hown hK hP 0 wm0 rfl 8 (by decide) (hts _ (List.mem_cons_of_mem _ wlq_0_16)) (fun _ h9 => h9) rfl (dk_at dkX12_operand_6 12 rfl) ?_
                  refine lv_if_ne (tgt := 221) hx hb (dk_at dkX12_operand_6 13 rfl) (by decide) (fun c230 => ?_) (fun c230 => ?_)
                  · have c230 : ¬ (A227 0 8) = 0 := mt (i_eq0 (rb r_A227_0_8 (by decide) (by decide))).mpr c230
                    refine lv_iconst (v := iI 0) hx hb (dk_at dkX12_operand_7 6 rfl) (by decide +kernel) ?_
                    have r_A227_0_5 : (0 : Int) ≤ (A227 0 5) ∧ (A227 0 5) ≤ 1600 := hI 0 5
                    exact RET 0 _ _ _ _ _ ⟨hk10 _ _ (u_d_X12_operand_10 ⟨gI226.out, ⟨A227, ghw228, (Or.inl ⟨c230, ⟨rfl, rfl⟩⟩)⟩⟩), hI, fr.trans (fr.trans (fr.trans (fr_def hA49 (fr.st (fr.rf) (by decide) rfl)) hf206 rfl rfl) hj223 rfl rfl) hf229 rfl rfl, (CI.fr (CI.fr (CI.fr (CI.fr hcCI (fr_def hA49 (fr.st (fr.rf (M := [37]) (N := [])) (by decide) rfl)) rfl rfl) hf206 rfl rfl) hj223 rfl rfl) hf229 rfl rfl), ⟨by decide, Hd.mk (fun h => absurd h (by omega))⟩⟩ hP hS (dk_at dkX12_operand_7 7 rfl)
                  · have c230 : (A227 0 8) = 0 := (i_eq0 (rb r_A227_0_8 (by decide) (by decide))).mp c230
                    have hlt := RI.lt hri1 (by omega)
                    have go := hw228.out (by omega)
                    have gm := f225.out go.2.2.1
                    have hdq := RI.deep go.1 hI
                    have e_A224_46 : A224 0 46 = (A 0 46) := (hj223.2 46 rfl).trans e_A204_46
                    have e_A227_46 : A227 0 46 = (A 0 46) := (hf229.2 46 rfl).trans e_A224_46
                    have e_A224_47 : A224 0 47 = (A 0 47) := (hj223.2 47 rfl).trans e_A204_47
                    have e_A227_47 : A227 0 47 = (A 0 47) := (hf229.2 47 rfl).trans e_A224_47
                    have e_A227_56 : A227 0 56 = (A 0 56) := (hf229.2 56 rfl).trans e_A224_56
                    have r_A227_0_3 : (0 : Int) ≤ (A227 0 3) ∧ (A227 0 3) ≤ 3 := hI 0 3
                    have r_A227_0_5 : (0 : Int) ≤ (A227 0 5) ∧ (A227 0 5) ≤ 1600 := hI 0 5
                    have r_A227_0_7 : (-9223372036854775808 : Int) ≤ (A227 0 7) ∧ (A227 0 7) ≤ 9223372036854775807 := hI 0 7
                    have r_A227_0_54 : (0 : Int) ≤ (A227 0 54) ∧ (A227 0 54) ≤ 8 := hI 0 54
                    refine lv_aload_n hx hb (dk_at dkX12_operand_6 14 rfl) rfl (lv_at hl 3 rfl) ?_
                    refine va_get (D := (dC, dI)) (ci := 12) (v := .ref (q 38)) (C := RX12) (T := TX12) (N := 85) hx hb hts hiX12 hown hK hP 0 wm0 rfl 51 (by decide) (hts _ (List.mem_cons_of_mem _ wlq_1_56)) (fun _ h9 => h9) rfl (dk_at dkX12_operand_6 15 rfl) ?_
                    refine lv_aload_n hx hb (dk_at dkX12_operand_7 0 rfl) rfl (lv_at hl 3 rfl) ?_
                    refine va_get (D := (dC, dI)) (ci := 12) (v := .int (iI (A227 0 53))) (C := RX12) (T := TX12) (N := 85) hx hb hts hiX12 hown hK hP 0 wm0 rfl 53 (by decide) (hts _ (List.mem_cons_of_mem _ wlq_1_37)) (fun _ h9 => h9) rfl (dk_at dkX12_operand_7 1 rfl) ?_
                    refine lv_iconst (v := iI 1) hx hb (dk_at dkX12_operand_7 2 rfl) (by decide +kernel) ?_
                    refine x_subv (v := (A227 0 53) - 1) hx hb (dk_at dkX12_operand_7 3 rfl) (by omega) ?_
                    refine lv_iload_n hx hb (dk_at dkX12_operand_7 4 rfl) rfl (lv_at hl 0 rfl) ?_
                    refine x_iast hx hb hK hP hDD hS 38 1 wm38 rfl (by omega) (by decide) (dk_at dkX12_operand_7 5 rfl) ws38 (fun H locs hP hS => ?_)
                    have hI := hI.st (j := 38) (i := ((A227 0 53) - 1).toNat) (v := z200) (show (0 : Int) ≤ z200 ∧ z200 ≤ 16 from (by omega))
                    refine lv_iconst (v := iI 0) hx hb (dk_at dkX12_operand_7 6 rfl) (by decide +kernel) ?_
                    obtain ⟨A231, hA231⟩ : ∃ A231 : St, A231 = (stA A227 38 ((A227 0 53) - 1).toNat z200) := ⟨_, rfl⟩
                    rw [← hA231] at hP hI
                    have e_A231_4 : A231 0 4 = (A227 0 4) := by rw [hA231]; exact rfl
                    have e_A231_5 : A231 0 5 = (A227 0 5) := by rw [hA231]; exact rfl
                    have e_A231_8 : A231 0 8 = (A227 0 8) := by rw [hA231]; exact rfl
                    have ca232 : A49 35 = A 35 := by rw [hA49]; exact rfl
                    have ca233 : A204 35 = A 35 := (hf206.1 35 (by decide) rfl).trans ca232
                    have ca234 : A224 35 = A 35 := (hj223.1 35 (by decide) rfl).trans ca233
                    have ca235 : A49 38 = A 38 := by rw [hA49]; exact rfl
                    have ca236 : A204 38 = A 38 := (hf206.1 38 (by decide) rfl).trans ca235
                    have ca237 : A224 38 = A 38 := (hj223.1 38 (by decide) rfl).trans ca236
                    have ca238 : A227 38 = A 38 := (hf229.1 38 (by decide) rfl).trans ca237
                    have ca239 : A231 35 = A227 35 := by rw [hA231]; exact rfl
                    have e_A224_4 : A224 0 4 = (A204 0 4) := (hj223.2 4 rfl)
                    have e_A224_7 : A224 0 7 = (A204 0 7) := (hj223.2 7 rfl)
                    have e_A224_54 : A224 0 54 = (A 0 54) := (hj223.2 54 rfl).trans e_A204_54
                    have e_A231_3 : A231 0 3 = (A227 0 3) := by rw [hA231]; exact rfl
                    have e_A231_7 : A231 0 7 = (A227 0 7) := by rw [hA231]; exact rfl
                    have e_A231_46 : A231 0 46 = (A 0 46) := by rw [hA231]; exact e_A227_46
                    have e_A231_47 : A231 0 47 = (A 0 47) := by rw [hA231]; exact e_A227_47
                    have e_A231_53 : A231 0 53 = (A227 0 53) := by rw [hA231]; exact rfl
                    have e_A231_54 : A231 0 54 = (A227 0 54) := by rw [hA231]; exact rfl
                    have e_A231_56 : A231 0 56 = (A 0 56) := by rw [hA231]; exact e_A227_56
                    have ca240 : A231 36 = A227 36 := by rw [hA231]; exact rfl
                    have ca241 : A49 36 = A 36 := by rw [hA49]; exact rfl
                    have ca242 : A204 36 = A 36 := (hf206.1 36 (by decide) rfl).trans ca241
                    have ca243 : A224 36 = A 36 := (hj223.1 36 (by decide) rfl).trans ca242
                    have ca244 : A231 39 = A227 39 := by rw [hA231]; exact rfl
                    have ca245 : A49 39 = A 39 := by rw [hA49]; exact rfl
                    have ca246 : A204 39 = A 39 := (hf206.1 39 (by decide) rfl).trans ca245
                    have ca247 : A224 39 = A 39 := (hj223.1 39 (by decide) rfl).trans ca246
                    have ca248 : A49 40 = A 40 := by rw [hA49]; exact rfl
                    have ca249 : A204 40 = A 40 := (hf206.1 40 (by decide) rfl).trans ca248
                    have ca250 : A224 40 = A 40 := (hj223.1 40 (by decide) rfl).trans ca249
                    have ca251 : A227 40 = A 40 := (hf229.1 40 (by decide) rfl).trans ca250
                    have ca252 : A231 40 = A 40 := by rw [hA231]; exact ca251
                    exact RET 0 _ _ _ _ _ ⟨hk10 _ _ (u_d_X12_operand_10 ⟨gI226.out, ⟨A227, ghw228, (Or.inr ⟨c230, ⟨A231, hA231, ⟨rfl, rfl⟩⟩⟩)⟩⟩), hI, fr_def hA231 (fr.st (fr.trans (fr.trans (fr.trans (fr_def hA49 (fr.st (fr.rf) (by decide) rfl)) hf206 rfl rfl) hj223 rfl rfl) hf229 rfl rfl) (by decide) rfl), (CI.fr (CI.fr (CI.fr (CI.fr (CI.fr hcCI (fr_def hA49 (fr.st (fr.rf (M := [37]) (N := [])) (by decide) rfl)) rfl rfl) hf206 rfl rfl) hj223 rfl rfl) hf229 rfl rfl) (fr_def hA231 (fr.st (fr.rf (M := [38]) (N := [])) (by decide) rfl)) rfl rfl), ⟨by decide, Hd.mk (fun h0 => ⟨(RI0.fr go.1 (fr_def hA231 (fr.st (fr.rf (M := [38]) (N := [])) (by decide) rfl)) rfl rfl), ⟨PR.pushp (w := z200) hp2 (by omega) (ca239.trans (go.2.2.2.1.trans (by rw [ca234, show A224 0 53 = A 0 53 by omega]))) (by have := go.2.2.2.2.1; omega) (by rw [hA231]; show up (A227 38) _ _ = _; rw [ca238, show A227 0 53 - 1 = A 0 53 by omega]) (by omega), SP.opn hp3 hI0 (by omega) (ca240.trans (go.2.2.2.2.2.1.trans (by rw [ca243, show A224 0 53 = A 0 53 by omega]))) (ca244.trans (go.2.2.2.2.2.2.trans (by rw [ca247, show A224 0 53 = A 0 53 by omega, show A224 0 56 = A 0 56 by omega]))) ca252 (by have := go.2.2.2.2.1; omega) e_A231_56⟩, by have := go.2.1; omega⟩)⟩⟩ hP hS (dk_at dkX12_operand_7 7 rfl)
                refine lv_if_ne (tgt := 197) hx hb (dk_at dkX12_operand_6 2 rfl) (by decide) (fun c218 => ?_) (fun c218 => ?_)
                · have c218 : ¬ z215 = 0 := mt (i_eq0 (rb rz215 (by decide) (by decide))).mpr c218
                  have hw217b := hw217.out.mp (by omega)
                  exact J197_219 _ _ _ _ (by exact Hd.mk (fun _ => ⟨⟨hri2, by omega, hb2⟩, by omega⟩)) (fun zq uq hq => hk9 _ _ (u_d_X12_operand_9 ⟨f202, ⟨A204, ghw205, ⟨z215, ghw217, (Or.inl ⟨c218, hq⟩)⟩⟩⟩)) hI (fr.rf) hP hS (lv_sub hl [0, 1, 2, 3] rfl)
                · have c218 : z215 = 0 := (i_eq0 (rb rz215 (by decide) (by decide))).mp c218
                  refine lv_aload_n hx hb (dk_at dkX12_operand_6 3 rfl) rfl (lv_at hl 3 rfl) ?_
                  refine lv_iconst (v := iI 1) hx hb (dk_at dkX12_operand_6 4 rfl) (by decide +kernel) ?_
                  refine lv_aload_n hx hb (dk_at dkX12_operand_6 5 rfl) rfl (lv_at hl 3 rfl) ?_
                  refine va_get (D := (dC, dI)) (ci := 12) (v := .int (iI (A204 0 4))) (C := RX12) (T := TX12) (N := 85) hx hb hts hiX12 hown hK hP 0 wm0 rfl 4 (by decide) (hts _ (List.mem_cons_of_mem _ wlq_0_23)) (fun _ h9 => h9) rfl (dk_at dkX12_operand_6 6 rfl) ?_
                  refine x_callv (As := [.int (iI 1), .int (iI (A204 0 4))]) (rest := []) ⟨hx, hb, hml, hown, hts⟩ (mc_X12_blame l dC dI cB cI cJ cZ cQ q _ 1 (A204 0 4) hI ⟨by decide, by decide⟩ r_A204_0_4) (cwV 2 hts (goodV wlq_0_31 wlq_0_32 wlq_0_33 wlq_0_8 wlq_0_15) rfl rfl rfl (by decide +kernel) ⟨Nat.le_of_ble_eq_true rfl, Nat.le_of_ble_eq_true rfl⟩) hK hDD hA0 hP hS 0 12 wm0 rfl rfl hl.1 (Nat.le_of_ble_eq_true rfl) (dk_at dkX12_operand_6 7 rfl) (fun A220 H locs hw221 hP hS => ?_)
                  have ghw221 : q_X12_blame 1 (A204 0 4) A204 A220 := hw221
                  obtain ⟨_, hI, hf222, hw221⟩ := hw221
                  have r_A220_0_8 : (0 : Int) ≤ (A220 0 8) ∧ (A220 0 8) ≤ 5 := hI 0 8
                  exact J197_219 _ _ _ _ (by exact Hd.mk (fun h => absurd h (by omega))) (fun zq uq hq => hk9 _ _ (u_d_X12_operand_9 ⟨f202, ⟨A204, ghw205, ⟨z215, ghw217, (Or.inr ⟨c218, ⟨A220, ghw221, hq⟩⟩)⟩⟩⟩)) hI (fr.trans (fr.rf) hf222 rfl rfl) hP hS (lv_sub hl [0, 1, 2, 3] rfl)
              refine lv_if_eq (tgt := 172) hx hb (dk_at dkX12_operand_5 8 rfl) (by decide) (fun c198 => ?_) (fun c198 => ?_)
              · have c198 : z195 = 0 := (i_eq0 (rb rz195 (by decide) (by decide))).mp c198
                refine lv_bipush (v := iI 16) hx hb (dk_at dkX12_operand_5 11 rfl) (by decide +kernel) ?_
                exact J174_199 16 _ _ _ (by omega) (by omega) (fun zq uq hq => hk8 _ _ (u_d_X12_operand_8 ⟨z195, ghw197, (Or.inl ⟨c198, hq⟩)⟩)) hP hS (lv_sub hl [0, 1, 2] rfl)
              · have c198 : ¬ z195 = 0 := mt (i_eq0 (rb rz195 (by decide) (by decide))).mpr c198
                have hw197b := hw197.out.mp (by omega)
                refine lv_bipush (v := iI 15) hx hb (dk_at dkX12_operand_5 9 rfl) (by decide +kernel) ?_
                refine lv_goto (tgt := 174) hx hb (dk_at dkX12_operand_5 10 rfl) (by decide) ?_
                exact J174_199 15 _ _ _ (by omega) (by omega) (fun zq uq hq => hk8 _ _ (u_d_X12_operand_8 ⟨z195, ghw197, (Or.inr ⟨c198, hq⟩)⟩)) hP hS (lv_sub hl [0, 1, 2] rfl)
            refine lv_if_ne (tgt := 157) hx hb (dk_at dkX12_operand_5 0 rfl) (by decide) (fun c127 => ?_) (fun c127 => ?_)
            · have c127 : ¬ z124 = 0 := mt (i_eq0 (rb rz124 (by decide) (by decide))).mpr c127
              have hw126b := hw126.out.mp (by omega)
              exact J157_128 _ _ _ (by omega) (fun zq uq hq => hk5 _ _ (u_d_X12_operand_5 ⟨z120, ghw122, (Or.inl ⟨c123, ⟨z124, ghw126, (Or.inl ⟨c127, hq⟩)⟩⟩)⟩)) hP hS (lv_sub hl [0, 1, 2] rfl)
            · have c127 : z124 = 0 := (i_eq0 (rb rz124 (by decide) (by decide))).mp c127
              refine lv_aload_n hx hb (dk_at dkX12_operand_5 1 rfl) rfl (lv_at hl 2 rfl) ?_
              refine lv_ldc2 (v := 7168376) hx hb hown (hts _ (List.mem_cons_of_mem _ wlq_1_9)) (dk_at dkX12_operand_5 2 rfl) ?_
              refine tp_l (y := jI 7168376) (by decide +kernel) ?_
              refine x_calli (As := [.long (jI 7168376)]) (rest := []) ⟨hx, hb, hml, hown, hts⟩ (mb_X12_isWord l dC dI cB cI cJ cZ cQ q _ 7168376 hI ⟨by decide, by decide⟩) (cwV 1 hts (goodV wlq_1_59 wlq_2_0 wlq_2_1 wlq_0_8 wlq_0_35) rfl rfl rfl (by decide +kernel) ⟨Nat.le_of_ble_eq_true rfl, Nat.le_of_ble_eq_true rfl⟩) hK hDD hA0 hP hS 0 12 wm0 rfl rfl hl.1 (Nat.le_of_ble_eq_true rfl) (dk_at dkX12_operand_5 3 rfl) (fun z129 A130 H locs hw131 hP hS => ?_)
              obtain ⟨rfl, hw131⟩ := hw131
              have ghw131 : q_X12_isWord 7168376 A49 z129 := hw131
              have hw131 := hw131.2
              have rz129 : 0 ≤ z129 ∧ z129 ≤ 1 := hw131.1
              replace hw131 := Hd.mk hw131.2
              refine lv_if_eq (tgt := 223) hx hb (dk_at dkX12_operand_5 4 rfl) (by decide) (fun c132 => ?_) (fun c132 => ?_)
              · have c132 : z129 = 0 := (i_eq0 (rb rz129 (by decide) (by decide))).mp c132
                refine lv_aload_n hx hb (dk_at dkX12_operand_7 8 rfl) rfl (lv_at hl 2 rfl) ?_
                refine va_get (D := (dC, dI)) (ci := 12) (v := .int (iI (A49 0 3))) (C := RX12) (T := TX12) (N := 85) hx hb hts hiX12 hown hK hP 0 wm0 rfl 3 (by decide) (hts _ (List.mem_cons_of_mem _ wlq_0_24)) (fun _ h9 => h9) rfl (dk_at dkX12_operand_7 9 rfl) ?_
                refine tp_i (y := iI (A 0 3)) (congrArg iI e_A49_3) ?_
                refine lv_iconst (v := iI 2) hx hb (dk_at dkX12_operand_7 10 rfl) (by decide +kernel) ?_
                have J292_134 : ∀ (z151 : Int) (H : Heap) (locs : List Loc) (ls : Array Slot), (-1 ≤ z151 ∧ z151 ≤ 4) → ((z151 = (-1) ∧ ¬ (A 0 3) = 2) ∨ (z151 = 4 ∧ ¬ (A 0 3) = 2) ∨ (z151 = 3 ∧ ¬ (A 0 3) = 2) ∨ (z151 = 2 ∧ ¬ (A 0 3) = 2) ∨ (z151 = 1 ∧ ¬ (A 0 3) = 2) ∨ (z151 = 0 ∧ (A 0 3) = 2)) → (Hd (z151 = -1 ∨ ¬ (A49 0 3) = 0)) → (∀ (z : Int) (u : St), (d_X12_operand_6 A A49 z u z151) → r_X12_operand A z u) → va_P (dC, dI) vwCl (WM cI cJ cZ q A49) H → va_S AS s.heap H locs → lv_has ls 4 [(2, .int (iI z11)), (1, .int (iI ((A 0 53) - 1))), (0, .ref (q 0))] → W p l e (headSpec ws_mb_X12_operand ({ frames := 3, cells := 0, slots := 0, locals := 68 } : Room)).room s m [.ref (q 0)].toArray below meth c H locs 0 0 Q (F0 m 292 ls [.int (iI z151)]) := by
                  intro z151 H locs ls f153 f154 f155 hk6 hP hS hl
                  refine lv_istore_n (lv' := [(3, .int (iI z151)), (2, .int (iI z11)), (1, .int (iI ((A 0 53) - 1))), (0, .ref (q 0))]) hx hb (dk_at dkX12_operand_9 7 rfl) rfl hl (by decide) rfl (fun ls hl => ?_)
                  refine lv_iload_n hx hb (dk_at dkX12_operand_9 8 rfl) rfl (lv_at hl 0 rfl) ?_
                  refine lv_iconst (v := iI (-1)) hx hb (dk_at dkX12_operand_9 9 rfl) (by decide +kernel) ?_
                  have J307_157 : ∀ (A162 : St) (H : Heap) (locs : List Loc) (ls : Array Slot), (Hd ((A162 0 8) = 0 → ¬ z151 = -1)) → (∀ (z : Int) (u : St), (d_X12_operand_7 z151 A z u A162) → r_X12_operand A z u) → IM A162 → fr [] [8, 9] A49 A162 → va_P (dC, dI) vwCl (WM cI cJ cZ q A162) H → va_S AS s.heap H locs → lv_has ls 4 [(3, .int (iI z151)), (2, .int (iI z11)), (1, .int (iI ((A 0 53) - 1))), (0, .ref (q 0))] → W p l e (headSpec ws_mb_X12_operand ({ frames := 3, cells := 0, slots := 0, locals := 68 } : Room)).room s m [.ref (q 0)].toArray below meth c H locs 0 0 Q (F0 m 307 ls []) := by
                    intro A162 H locs ls f163 hk7 hI hj161 hP hS hl
                    have gI164 : Hd (IM A162) := Hd.mk hI
                    refine lv_aload_n hx hb (dk_at dkX12_operand_10 0 rfl) rfl (lv_at hl 3 rfl) ?_
                    refine va_get (D := (dC, dI)) (ci := 12) (v := .int (iI (A162 0 8))) (C := RX12) (T := TX12) (N := 85) hx hb hts hiX12 hown hK hP 0 wm0 rfl 8 (by decide) (hts _ (List.mem_cons_of_mem _ wlq_0_16)) (fun _ h9 => h9) rfl (dk_at dkX12_operand_10 1 rfl) ?_
                    have r_A162_0_8 : (0 : Int) ≤ (A162 0 8) ∧ (A162 0 8) ≤ 5 := hI 0 8
                    refine lv_if_le (tgt := 316) hx hb (dk_at dkX12_operand_10 2 rfl) (by decide) (fun c165 => ?_) (fun c165 => ?_)
                    · have c165 : (A162 0 8) ≤ 0 := (i_le0 (rb r_A162_0_8 (by decide) (by decide))).mp c165
                      have g3 := f163.out (by omega)
                      have g4 := f155.out
                      have hlt := RI.lt hri1 (by omega)
                      refine lv_aload_n hx hb (dk_at dkX12_operand_10 5 rfl) rfl (lv_at hl 3 rfl) ?_
                      refine lv_iload_n hx hb (dk_at dkX12_operand_10 6 rfl) rfl (lv_at hl 0 rfl) ?_
                      refine lv_aload_n hx hb (dk_at dkX12_operand_10 7 rfl) rfl (lv_at hl 3 rfl) ?_
                      have e_A162_6 : A162 0 6 = (A 0 6) := (hj161.2 6 rfl).trans e_A49_6
                      refine va_get (D := (dC, dI)) (ci := 12) (v := .int (iI (A162 0 6))) (C := RX12) (T := TX12) (N := 85) hx hb hts hiX12 hown hK hP 0 wm0 rfl 6 (by decide) (hts _ (List.mem_cons_of_mem _ wlq_0_25)) (fun _ h9 => h9) rfl (dk_at dkX12_operand_10 8 rfl) ?_
                      refine tp_i (y := iI (A 0 6)) (congrArg iI e_A162_6) ?_
                      have e_A162_46 : A162 0 46 = (A 0 46) := (hj161.2 46 rfl).trans e_A49_46
                      have e_A162_47 : A162 0 47 = (A 0 47) := (hj161.2 47 rfl).trans e_A49_47
                      refine x_callv (As := [.int (iI z151), .int (iI (A 0 6))]) (rest := []) ⟨hx, hb, hml, hown, hts⟩ (mb_X12_add l dC dI cB cI cJ cZ cQ q _ z151 (A 0 6) hI (by omega) r_A_0_6 (by omega) (CI.fr (CI.fr hcCI (fr_def hA49 (fr.st (fr.rf (M := [37]) (N := [])) (by decide) rfl)) rfl rfl) hj161 rfl rfl)) (cwV 2 hts (goodV wlq_1_41 wlq_1_42 wlq_1_43 wlq_0_8 wlq_1_29) rfl rfl rfl (by decide +kernel) ⟨Nat.le_of_ble_eq_true rfl, Nat.le_of_ble_eq_true rfl⟩) hK hDD hA0 hP hS 0 12 wm0 rfl rfl hl.1 (Nat.le_of_ble_eq_true rfl) (dk_at dkX12_operand_10 9 rfl) (fun A166 H locs hw167 hP hS => ?_)
                      have ghw167 : q_X12_add z151 (A 0 6) A162 A166 := hw167
                      obtain ⟨_, hI, hf168, hw167⟩ := hw167
                      obtain ⟨hc169, hw167⟩ := hw167
                      have r_A166_0_46 : (0 : Int) ≤ (A166 0 46) ∧ (A166 0 46) ≤ 1600 := hI 0 46
                      refine lv_aload_n hx hb (dk_at dkX12_operand_10 10 rfl) rfl (lv_at hl 3 rfl) ?_
                      have e_A162_4 : A162 0 4 = (A 0 4) := (hj161.2 4 rfl).trans e_A49_4
                      have e_A166_4 : A166 0 4 = (A 0 4) := (hf168.2 4 rfl).trans e_A162_4
                      have e_A162_5 : A162 0 5 = (A 0 5) := (hj161.2 5 rfl).trans e_A49_5
                      have e_A166_5 : A166 0 5 = (A 0 5) := (hf168.2 5 rfl).trans e_A162_5
                      have e_A166_8 : A166 0 8 = (A162 0 8) := (hf168.2 8 rfl)
                      refine x_callv (As := []) (rest := []) ⟨hx, hb, hml, hown, hts⟩ (mb_X12_ahead l dC dI cB cI cJ cZ cQ q _ hI) (cwV 0 hts (goodV wlq_0_40 wlq_0_41 wlq_0_42 wlq_0_8 wlq_0_20) rfl rfl rfl (by decide +kernel) ⟨Nat.le_of_ble_eq_true rfl, Nat.le_of_ble_eq_true rfl⟩) hK hDD hA0 hP hS 0 12 wm0 rfl rfl hl.1 (Nat.le_of_ble_eq_true rfl) (dk_at dkX12_operand_10 11 rfl) (fun A170 H locs hw171 hP hS => ?_)
                      have ghw171 : q_X12_ahead A166 A170 := hw171
                      obtain ⟨_, hI, hf172, hw171⟩ := hw171
                      have r_A170_0_3 : (0 : Int) ≤ (A170 0 3) ∧ (A170 0 3) ≤ 3 := hI 0 3
                      have r_A170_0_4 : (0 : Int) ≤ (A170 0 4) ∧ (A170 0 4) ≤ 1600 := hI 0 4
                      have r_A170_0_5 : (0 : Int) ≤ (A170 0 5) ∧ (A170 0 5) ≤ 1600 := hI 0 5
                      have r_A170_0_8 : (0 : Int) ≤ (A170 0 8) ∧ (A170 0 8) ≤ 5 := hI 0 8
                      refine lv_iconst (v := iI 1) hx hb (dk_at dkX12_operand_10 12 rfl) (by decide +kernel) ?_
                      have e_A162_3 : A162 0 3 = (A 0 3) := (hj161.2 3 rfl).trans e_A49_3
                      have e_A162_7 : A162 0 7 = (A 0 7) := (hj161.2 7 rfl).trans e_A49_7
                      have e_A162_53 : A162 0 53 = (A 0 53) := (hj161.2 53 rfl).trans e_A49_53
                      have e_A162_54 : A162 0 54 = (A 0 54) := (hj161.2 54 rfl).trans e_A49_54
                      have e_A162_56 : A162 0 56 = (A 0 56) := (hj161.2 56 rfl).trans e_A49_56
                      have r_A170_0_7 : (-9223372036854775808 : Int) ≤ (A170 0 7) ∧ (A170 0 7) ≤ 9223372036854775807 := hI 0 7
                      have ca173 : A170 33 = A166 33 := (hf172.1 33 (by decide) rfl)
                      have ca174 : A162 33 = A49 33 := (hj161.1 33 (by decide) rfl)
                      have e_A170_46 : A170 0 46 = (A166 0 46) := (hf172.2 46 rfl)
                      have e_A166_47 : A166 0 47 = (A 0 47) := (hf168.2 47 rfl).trans e_A162_47
                      have e_A170_47 : A170 0 47 = (A 0 47) := (hf172.2 47 rfl).trans e_A166_47
                      have e_A166_53 : A166 0 53 = (A 0 53) := (hf168.2 53 rfl).trans e_A162_53
                      have e_A170_53 : A170 0 53 = (A 0 53) := (hf172.2 53 rfl).trans e_A166_53
                      have e_A166_54 : A166 0 54 = (A 0 54) := (hf168.2 54 rfl).trans e_A162_54
                      have e_A170_54 : A170 0 54 = (A 0 54) := (hf172.2 54 rfl).trans e_A166_54
                      have e_A166_56 : A166 0 56 = (A 0 56) := (hf168.2 56 rfl).trans e_A162_56
                      have e_A170_56 : A170 0 56 = (A 0 56) := (hf172.2 56 rfl).trans e_A166_56
                      have ca175 : A162 29 = A49 29 := (hj161.1 29 (by decide) rfl)
                      have ca176 : A166 29 = A49 29 := (hf168.1 29 (by decide) rfl).trans ca175
                      have ca177 : A170 29 = A49 29 := (hf172.1 29 (by decide) rfl).trans ca176
                      have ca178 : A162 31 = A49 31 := (hj161.1 31 (by decide) rfl)
                      have ca179 : A166 31 = A49 31 := (hf168.1 31 (by decide) rfl).trans ca178
                      have ca180 : A170 31 = A49 31 := (hf172.1 31 (by decide) rfl).trans ca179
                      have ca181 : A162 35 = A49 35 := (hj161.1 35 (by decide) rfl)
                      have ca182 : A166 35 = A49 35 := (hf168.1 35 (by decide) rfl).trans ca181
                      have ca183 : A170 35 = A49 35 := (hf172.1 35 (by decide) rfl).trans ca182
                      have ca184 : A162 37 = A49 37 := (hj161.1 37 (by decide) rfl)
                      have ca185 : A166 37 = A49 37 := (hf168.1 37 (by decide) rfl).trans ca184
                      have ca186 : A170 37 = A49 37 := (hf172.1 37 (by decide) rfl).trans ca185
                      have ca187 : A162 39 = A49 39 := (hj161.1 39 (by decide) rfl)
                      have ca188 : A166 39 = A49 39 := (hf168.1 39 (by decide) rfl).trans ca187
                      have ca189 : A170 39 = A49 39 := (hf172.1 39 (by decide) rfl).trans ca188
                      have ca190 : A162 40 = A49 40 := (hj161.1 40 (by decide) rfl)
                      have ca191 : A166 40 = A49 40 := (hf168.1 40 (by decide) rfl).trans ca190
                      have ca192 : A170 40 = A49 40 := (hf172.1 40 (by decide) rfl).trans ca191
                      exact RET 1 _ _ _ _ _ ⟨hk7 _ _ (u_d_X12_operand_7 ⟨gI164.out, (Or.inl ⟨c165, ⟨A166, ghw167, ⟨A170, ghw171, ⟨rfl, rfl⟩⟩⟩⟩)⟩), hI, fr.trans (fr.trans (fr.trans (fr_def hA49 (fr.st (fr.rf) (by decide) rfl)) hj161 rfl rfl) hf168 rfl rfl) hf172 rfl rfl, (CI.fr hc169 hf172 rfl rfl), ⟨by decide, Hd.mk (fun h0 => ⟨RI.val (r37 := A49 37) hri1 hI1 (by omega) (x := z151) (by omega) (fun _ _ => rfl) hb1 ⟨ca177, ca180, (ca173.trans (hw167.2.trans (by rw [ca174, show A162 0 47 = A49 0 47 by omega, show A162 0 46 = A49 0 46 by omega]))), ca183, ca186, ca189, ca192, (by omega), (e_A170_47.trans e_A49_47.symm), (e_A170_53.trans e_A49_53.symm), (e_A170_54.trans e_A49_54.symm), (e_A170_56.trans e_A49_56.symm)⟩ (by omega) (by omega) hw171.2.2.1, ⟨(PR.fr (PR.fr (PR.fr (PR.fr hp2 (fr_def hA49 (fr.st (fr.rf (M := [37]) (N := [])) (by decide) rfl)) rfl rfl) hj161 rfl rfl) hf168 rfl rfl) hf172 rfl rfl), (SP.fr (SP.fr (SP.fr (SP.fr hp3 (fr_def hA49 (fr.st (fr.rf (M := [37]) (N := [])) (by decide) rfl)) rfl rfl) hj161 rfl rfl) hf168 rfl rfl) hf172 rfl rfl)⟩, by omega⟩)⟩⟩ hP hS (dk_at dkX12_operand_10 13 rfl)
                    · have c165 : ¬ (A162 0 8) ≤ 0 := mt (i_le0 (rb r_A162_0_8 (by decide) (by decide))).mpr c165
                      refine lv_iconst (v := iI 1) hx hb (dk_at dkX12_operand_10 3 rfl) (by decide +kernel) ?_
                      have e_A162_4 : A162 0 4 = (A 0 4) := (hj161.2 4 rfl).trans e_A49_4
                      have e_A162_5 : A162 0 5 = (A 0 5) := (hj161.2 5 rfl).trans e_A49_5
                      exact RET 1 _ _ _ _ _ ⟨hk7 _ _ (u_d_X12_operand_7 ⟨gI164.out, (Or.inr ⟨c165, ⟨rfl, rfl⟩⟩)⟩), hI, fr.trans (fr_def hA49 (fr.st (fr.rf) (by decide) rfl)) hj161 rfl rfl, (CI.fr (CI.fr hcCI (fr_def hA49 (fr.st (fr.rf (M := [37]) (N := [])) (by decide) rfl)) rfl rfl) hj161 rfl rfl), ⟨by decide, Hd.mk (fun h => absurd h (by omega))⟩⟩ hP hS (dk_at dkX12_operand_10 4 rfl)
                  refine lv_icmp_ne (tgt := 307) hx hb (dk_at dkX12_operand_9 10 rfl) (by decide) (fun c156 => ?_) (fun c156 => ?_)
                  · have c156 : ¬ z151 = (-1) := mt (i_eq (rb f153 (by decide) (by decide)) ⟨by decide, by decide⟩).mpr c156
                    exact J307_157 _ _ _ _ (by exact Hd.mk (by  omega)) (fun zq uq hq => hk6 _ _ (u_d_X12_operand_6 ⟨f153, (Or.inl ⟨c156, hq⟩)⟩)) hI (fr.rf) hP hS (lv_sub hl [0, 1, 2, 3] rfl)
                  · have c156 : z151 = (-1) := (i_eq (rb f153 (by decide) (by decide)) ⟨by decide, by decide⟩).mp c156
                    refine lv_aload_n hx hb (dk_at dkX12_operand_9 11 rfl) rfl (lv_at hl 3 rfl) ?_
                    refine lv_iconst (v := iI 1) hx hb (dk_at dkX12_operand_9 12 rfl) (by decide +kernel) ?_
                    refine lv_aload_n hx hb (dk_at dkX12_operand_9 13 rfl) rfl (lv_at hl 3 rfl) ?_
                    refine va_get (D := (dC, dI)) (ci := 12) (v := .int (iI (A49 0 4))) (C := RX12) (T := TX12) (N := 85) hx hb hts hiX12 hown hK hP 0 wm0 rfl 4 (by decide) (hts _ (List.mem_cons_of_mem _ wlq_0_23)) (fun _ h9 => h9) rfl (dk_at dkX12_operand_9 14 rfl) ?_
                    refine tp_i (y := iI (A 0 4)) (congrArg iI e_A49_4) ?_
                    refine x_callv (As := [.int (iI 1), .int (iI (A 0 4))]) (rest := []) ⟨hx, hb, hml, hown, hts⟩ (mc_X12_blame l dC dI cB cI cJ cZ cQ q _ 1 (A 0 4) hI ⟨by decide, by decide⟩ r_A_0_4) (cwV 2 hts (goodV wlq_0_31 wlq_0_32 wlq_0_33 wlq_0_8 wlq_0_15) rfl rfl rfl (by decide +kernel) ⟨Nat.le_of_ble_eq_true rfl, Nat.le_of_ble_eq_true rfl⟩) hK hDD hA0 hP hS 0 12 wm0 rfl rfl hl.1 (Nat.le_of_ble_eq_true rfl) (dk_at dkX12_operand_9 15 rfl) (fun A158 H locs hw159 hP hS => ?_)
                    have ghw159 : q_X12_blame 1 (A 0 4) A49 A158 := hw159
                    obtain ⟨_, hI, hf160, hw159⟩ := hw159
                    have r_A158_0_8 : (0 : Int) ≤ (A158 0 8) ∧ (A158 0 8) ≤ 5 := hI 0 8
                    exact J307_157 _ _ _ _ (by exact Hd.mk (by  omega)) (fun zq uq hq => hk6 _ _ (u_d_X12_operand_6 ⟨f153, (Or.inr ⟨c156, ⟨A158, ghw159, hq⟩⟩)⟩)) hI (fr.trans (fr.rf) hf160 rfl rfl) hP hS (lv_sub hl [0, 1, 2, 3] rfl)
                refine lv_icmp_ne (tgt := 235) hx hb (dk_at dkX12_operand_7 11 rfl) (by decide) (fun c133 => ?_) (fun c133 => ?_)
                · have c133 : ¬ (A 0 3) = 2 := mt (i_eq (rb r_A_0_3 (by decide) (by decide)) ⟨by decide, by decide⟩).mpr c133
                  refine lv_aload_n hx hb (dk_at dkX12_operand_7 14 rfl) rfl (lv_at hl 2 rfl) ?_
                  refine lv_ldc2 (v := 7825519) hx hb hown (hts _ (List.mem_cons_of_mem _ wlq_1_4)) (dk_at dkX12_operand_7 15 rfl) ?_
                  refine tp_l (y := jI 7825519) (by decide +kernel) ?_
                  refine x_calli (As := [.long (jI 7825519)]) (rest := []) ⟨hx, hb, hml, hown, hts⟩ (mb_X12_isWord l dC dI cB cI cJ cZ cQ q _ 7825519 hI ⟨by decide, by decide⟩) (cwV 1 hts (goodV wlq_1_59 wlq_2_0 wlq_2_1 wlq_0_8 wlq_0_35) rfl rfl rfl (by decide +kernel) ⟨Nat.le_of_ble_eq_true rfl, Nat.le_of_ble_eq_true rfl⟩) hK hDD hA0 hP hS 0 12 wm0 rfl rfl hl.1 (Nat.le_of_ble_eq_true rfl) (dk_at dkX12_operand_8 0 rfl) (fun z135 A136 H locs hw137 hP hS => ?_)
                  obtain ⟨rfl, hw137⟩ := hw137
                  have ghw137 : q_X12_isWord 7825519 A49 z135 := hw137
                  have hw137 := hw137.2
                  have rz135 : 0 ≤ z135 ∧ z135 ≤ 1 := hw137.1
                  replace hw137 := Hd.mk hw137.2
                  refine lv_if_eq (tgt := 249) hx hb (dk_at dkX12_operand_8 1 rfl) (by decide) (fun c138 => ?_) (fun c138 => ?_)
                  · have c138 : z135 = 0 := (i_eq0 (rb rz135 (by decide) (by decide))).mp c138
                    refine lv_aload_n hx hb (dk_at dkX12_operand_8 4 rfl) rfl (lv_at hl 2 rfl) ?_
                    refine lv_ldc2 (v := 1936748404) hx hb hown (hts _ (List.mem_cons_of_mem _ wlq_1_5)) (dk_at dkX12_operand_8 5 rfl) ?_
                    refine tp_l (y := jI 1936748404) (by decide +kernel) ?_
                    refine x_calli (As := [.long (jI 1936748404)]) (rest := []) ⟨hx, hb, hml, hown, hts⟩ (mb_X12_isWord l dC dI cB cI cJ cZ cQ q _ 1936748404 hI ⟨by decide, by decide⟩) (cwV 1 hts (goodV wlq_1_59 wlq_2_0 wlq_2_1 wlq_0_8 wlq_0_35) rfl rfl rfl (by decide +kernel) ⟨Nat.le_of_ble_eq_true rfl, Nat.le_of_ble_eq_true rfl⟩) hK hDD hA0 hP hS 0 12 wm0 rfl rfl hl.1 (Nat.le_of_ble_eq_true rfl) (dk_at dkX12_operand_8 6 rfl) (fun z139 A140 H locs hw141 hP hS => ?_)
                    obtain ⟨rfl, hw141⟩ := hw141
                    have ghw141 : q_X12_isWord 1936748404 A49 z139 := hw141
                    have hw141 := hw141.2
                    have rz139 : 0 ≤ z139 ∧ z139 ≤ 1 := hw141.1
                    replace hw141 := Hd.mk hw141.2
                    refine lv_if_eq (tgt := 263) hx hb (dk_at dkX12_operand_8 7 rfl) (by decide) (fun c142 => ?_) (fun c142 => ?_)
                    · have c142 : z139 = 0 := (i_eq0 (rb rz139 (by decide) (by decide))).mp c142
                      refine lv_aload_n hx hb (dk_at dkX12_operand_8 10 rfl) rfl (lv_at hl 2 rfl) ?_
                      refine lv_ldc2 (v := 1801812339) hx hb hown (hts _ (List.mem_cons_of_mem _ wlq_1_6)) (dk_at dkX12_operand_8 11 rfl) ?_
                      refine tp_l (y := jI 1801812339) (by decide +kernel) ?_
                      refine x_calli (As := [.long (jI 1801812339)]) (rest := []) ⟨hx, hb, hml, hown, hts⟩ (mb_X12_isWord l dC dI cB cI cJ cZ cQ q _ 1801812339 hI ⟨by decide, by decide⟩) (cwV 1 hts (goodV wlq_1_59 wlq_2_0 wlq_2_1 wlq_0_8 wlq_0_35) rfl rfl rfl (by decide +kernel) ⟨Nat.le_of_ble_eq_true rfl, Nat.le_of_ble_eq_true rfl⟩) hK hDD hA0 hP hS 0 12 wm0 rfl rfl hl.1 (Nat.le_of_ble_eq_true rfl) (dk_at dkX12_operand_8 12 rfl) (fun z143 A144 H locs hw145 hP hS => ?_)
                      obtain ⟨rfl, hw145⟩ := hw145
                      have ghw145 : q_X12_isWord 1801812339 A49 z143 := hw145
                      have hw145 := hw145.2
                      have rz143 : 0 ≤ z143 ∧ z143 ≤ 1 := hw145.1
                      replace hw145 := Hd.mk hw145.2
                      refine lv_if_eq (tgt := 277) hx hb (dk_at dkX12_operand_8 13 rfl) (by decide) (fun c146 => ?_) (fun c146 => ?_)
                      · have c146 : z143 = 0 := (i_eq0 (rb rz143 (by decide) (by decide))).mp c146
                        refine lv_aload_n hx hb (dk_at dkX12_operand_9 0 rfl) rfl (lv_at hl 2 rfl) ?_
                        refine lv_ldc2 (v := 109317377451364) hx hb hown (hts _ (List.mem_cons_of_mem _ wlq_1_7)) (dk_at dkX12_operand_9 1 rfl) ?_
                        refine tp_l (y := jI 109317377451364) (by decide +kernel) ?_
                        refine x_calli (As := [.long (jI 109317377451364)]) (rest := []) ⟨hx, hb, hml, hown, hts⟩ (mb_X12_isWord l dC dI cB cI cJ cZ cQ q _ 109317377451364 hI ⟨by decide, by decide⟩) (cwV 1 hts (goodV wlq_1_59 wlq_2_0 wlq_2_1 wlq_0_8 wlq_0_35) rfl rfl rfl (by decide +kernel) ⟨Nat.le_of_ble_eq_true rfl, Nat.le_of_ble_eq_true rfl⟩) hK hDD hA0 hP hS 0 12 wm0 rfl rfl hl.1 (Nat.le_of_ble_eq_true rfl) (dk_at dkX12_operand_9 2 rfl) (fun z147 A148 H locs hw149 hP hS => ?_)
                        obtain ⟨rfl, hw149⟩ := hw149
                        have ghw149 : q_X12_isWord 109317377451364 A49 z147 := hw149
                        have hw149 := hw149.2
                        have rz147 : 0 ≤ z147 ∧ z147 ≤ 1 := hw149.1
                        replace hw149 := Hd.mk hw149.2
                        refine lv_if_eq (tgt := 291) hx hb (dk_at dkX12_operand_9 3 rfl) (by decide) (fun c150 => ?_) (fun c150 => ?_)
                        · have c150 : z147 = 0 := (i_eq0 (rb rz147 (by decide) (by decide))).mp c150
                          refine lv_iconst (v := iI (-1)) hx hb (dk_at dkX12_operand_9 6 rfl) (by decide +kernel) ?_
                          exact J292_134 (-1) _ _ _ (by omega) (by omega) (by exact Hd.mk (by  omega)) (fun zq uq hq => hk5 _ _ (u_d_X12_operand_5 ⟨z120, ghw122, (Or.inl ⟨c123, ⟨z124, ghw126, (Or.inr ⟨c127, ⟨z129, ghw131, (Or.inl ⟨c132, (Or.inl ⟨c133, ⟨z135, ghw137, (Or.inl ⟨c138, ⟨z139, ghw141, (Or.inl ⟨c142, ⟨z143, ghw145, (Or.inl ⟨c146, ⟨z147, ghw149, (Or.inl ⟨c150, hq⟩)⟩⟩)⟩⟩)⟩⟩)⟩⟩)⟩)⟩⟩)⟩⟩)⟩)) hP hS (lv_sub hl [0, 1, 2] rfl)
                        · have c150 : ¬ z147 = 0 := mt (i_eq0 (rb rz147 (by decide) (by decide))).mpr c150
                          have hw149b := hw149.out.mp (by omega)
                          refine lv_iconst (v := iI 4) hx hb (dk_at dkX12_operand_9 4 rfl) (by decide +kernel) ?_
                          refine lv_goto (tgt := 292) hx hb (dk_at dkX12_operand_9 5 rfl) (by decide) ?_
                          exact J292_134 4 _ _ _ (by omega) (by omega) (by exact Hd.mk (by  omega)) (fun zq uq hq => hk5 _ _ (u_d_X12_operand_5 ⟨z120, ghw122, (Or.inl ⟨c123, ⟨z124, ghw126, (Or.inr ⟨c127, ⟨z129, ghw131, (Or.inl ⟨c132, (Or.inl ⟨c133, ⟨z135, ghw137, (Or.inl ⟨c138, ⟨z139, ghw141, (Or.inl ⟨c142, ⟨z143, ghw145, (Or.inl ⟨c146, ⟨z147, ghw149, (Or.inr ⟨c150, hq⟩)⟩⟩)⟩⟩)⟩⟩)⟩⟩)⟩)⟩⟩)⟩⟩)⟩)) hP hS (lv_sub hl [0, 1, 2] rfl)
                      · have c146 : ¬ z143 = 0 := mt (i_eq0 (rb rz143 (by decide) (by decide))).mpr c146
                        have hw145b := hw145.out.mp (by omega)
                        refine lv_iconst (v := iI 3) hx hb (dk_at dkX12_operand_8 14 rfl) (by decide +kernel) ?_
                        refine lv_goto (tgt := 292) hx hb (dk_at dkX12_operand_8 15 rfl) (by decide) ?_
                        exact J292_134 3 _ _ _ (by omega) (by omega) (by exact Hd.mk (by  omega)) (fun zq uq hq => hk5 _ _ (u_d_X12_operand_5 ⟨z120, ghw122, (Or.inl ⟨c123, ⟨z124, ghw126, (Or.inr ⟨c127, ⟨z129, ghw131, (Or.inl ⟨c132, (Or.inl ⟨c133, ⟨z135, ghw137, (Or.inl ⟨c138, ⟨z139, ghw141, (Or.inl ⟨c142, ⟨z143, ghw145, (Or.inr ⟨c146, hq⟩)⟩⟩)⟩⟩)⟩⟩)⟩)⟩⟩)⟩⟩)⟩)) hP hS (lv_sub hl [0, 1, 2] rfl)
                    · have c142 : ¬ z139 = 0 := mt (i_eq0 (rb rz139 (by decide) (by decide))).mpr c142
                      have hw141b := hw141.out.mp (by omega)
                      refine lv_iconst (v := iI 2) hx hb (dk_at dkX12_operand_8 8 rfl) (by decide +kernel) ?_
                      refine lv_goto (tgt := 292) hx hb (dk_at dkX12_operand_8 9 rfl) (by decide) ?_
                      exact J292_134 2 _ _ _ (by omega) (by omega) (by exact Hd.mk (by  omega)) (fun zq uq hq => hk5 _ _ (u_d_X12_operand_5 ⟨z120, ghw122, (Or.inl ⟨c123, ⟨z124, ghw126, (Or.inr ⟨c127, ⟨z129, ghw131, (Or.inl ⟨c132, (Or.inl ⟨c133, ⟨z135, ghw137, (Or.inl ⟨c138, ⟨z139, ghw141, (Or.inr ⟨c142, hq⟩)⟩⟩)⟩⟩)⟩)⟩⟩)⟩⟩)⟩)) hP hS (lv_sub hl [0, 1, 2] rfl)
                  · have c138 : ¬ z135 = 0 := mt (i_eq0 (rb rz135 (by decide) (by decide))).mpr c138
                    have hw137b := hw137.out.mp (by omega)
                    refine lv_iconst (v := iI 1) hx hb (dk_at dkX12_operand_8 2 rfl) (by decide +kernel) ?_
                    refine lv_goto (tgt := 292) hx hb (dk_at dkX12_operand_8 3 rfl) (by decide) ?_
                    exact J292_134 1 _ _ _ (by omega) (by omega) (by exact Hd.mk (by  omega)) (fun zq uq hq => hk5 _ _ (u_d_X12_operand_5 ⟨z120, ghw122, (Or.inl ⟨c123, ⟨z124, ghw126, (Or.inr ⟨c127, ⟨z129, ghw131, (Or.inl ⟨c132, (Or.inl ⟨c133, ⟨z135, ghw137, (Or.inr ⟨c138, hq⟩)⟩⟩)⟩)⟩⟩)⟩⟩)⟩)) hP hS (lv_sub hl [0, 1, 2] rfl)
                · have c133 : (A 0 3) = 2 := (i_eq (rb r_A_0_3 (by decide) (by decide)) ⟨by decide, by decide⟩).mp c133
                  refine lv_iconst (v := iI 0) hx hb (dk_at dkX12_operand_7 12 rfl) (by decide +kernel) ?_
                  refine lv_goto (tgt := 292) hx hb (dk_at dkX12_operand_7 13 rfl) (by decide) ?_
                  exact J292_134 0 _ _ _ (by omega) (by omega) (by exact Hd.mk (by  omega)) (fun zq uq hq => hk5 _ _ (u_d_X12_operand_5 ⟨z120, ghw122, (Or.inl ⟨c123, ⟨z124, ghw126, (Or.inr ⟨c127, ⟨z129, ghw131, (Or.inl ⟨c132, (Or.inr ⟨c133, hq⟩)⟩)⟩⟩)⟩⟩)⟩)) hP hS (lv_sub hl [0, 1, 2] rfl)
              · have c132 : ¬ z129 = 0 := mt (i_eq0 (rb rz129 (by decide) (by decide))).mpr c132
                have hw131b := hw131.out.mp (by omega)
                exact J157_128 _ _ _ (by omega) (fun zq uq hq => hk5 _ _ (u_d_X12_operand_5 ⟨z120, ghw122, (Or.inl ⟨c123, ⟨z124, ghw126, (Or.inr ⟨c127, ⟨z129, ghw131, (Or.inr ⟨c132, hq⟩)⟩⟩)⟩⟩)⟩)) hP hS (lv_sub hl [0, 1, 2] rfl)
          · have c123 : ¬ z120 = 0 := mt (i_eq0 (rb rz120 (by decide) (by decide))).mpr c123
            have hw122b := hw122.out.mp (by omega)
            refine lv_aload_n hx hb (dk_at dkX12_operand_4 8 rfl) rfl (lv_at hl 2 rfl) ?_
            refine lv_iconst (v := iI 2) hx hb (dk_at dkX12_operand_4 9 rfl) (by decide +kernel) ?_
            refine x_callv (As := [.int (iI 2)]) (rest := []) ⟨hx, hb, hml, hown, hts⟩ (mb_X12_opens l dC dI cB cI cJ cZ cQ q _ 2 hI ⟨by decide, by decide⟩ (by exact Hd.mk (fun _ => ⟨hri1, by omega, hb1⟩)) (by omega)) (cwV 1 hts (goodV wlq_2_5 wlq_2_6 wlq_2_7 wlq_0_8 wlq_1_49) rfl rfl rfl (by decide +kernel) ⟨Nat.le_of_ble_eq_true rfl, Nat.le_of_ble_eq_true rfl⟩) hK hDD hA0 hP hS 0 12 wm0 rfl rfl hl.1 (Nat.le_of_ble_eq_true rfl) (dk_at dkX12_operand_4 10 rfl) (fun A253 H locs hw254 hP hS => ?_)
            have ghw254 : q_X12_opens 2 A49 A253 := hw254
            obtain ⟨_, hI, hf255, hw254⟩ := hw254
            have r_A253_0_4 : (0 : Int) ≤ (A253 0 4) ∧ (A253 0 4) ≤ 1600 := hI 0 4
            have r_A253_0_8 : (0 : Int) ≤ (A253 0 8) ∧ (A253 0 8) ≤ 5 := hI 0 8
            have r_A253_0_53 : (0 : Int) ≤ (A253 0 53) ∧ (A253 0 53) ≤ 20 := hI 0 53
            refine lv_iconst (v := iI 0) hx hb (dk_at dkX12_operand_4 11 rfl) (by decide +kernel) ?_
            have r_A253_0_5 : (0 : Int) ≤ (A253 0 5) ∧ (A253 0 5) ≤ 1600 := hI 0 5
            have hlt := RI.lt hp0 (by omega)
            have ca256 : A49 35 = A 35 := by rw [hA49]; exact rfl
            have ca257 : A49 38 = A 38 := by rw [hA49]; exact rfl
            have ca258 : A253 38 = A 38 := (hf255.1 38 (by decide) rfl).trans ca257
            have e_A253_46 : A253 0 46 = (A 0 46) := (hf255.2 46 rfl).trans e_A49_46
            have e_A253_47 : A253 0 47 = (A 0 47) := (hf255.2 47 rfl).trans e_A49_47
            have e_A253_56 : A253 0 56 = (A 0 56) := (hf255.2 56 rfl).trans e_A49_56
            have r_A253_0_3 : (0 : Int) ≤ (A253 0 3) ∧ (A253 0 3) ≤ 3 := hI 0 3
            have r_A253_0_7 : (-9223372036854775808 : Int) ≤ (A253 0 7) ∧ (A253 0 7) ≤ 9223372036854775807 := hI 0 7
            have r_A253_0_54 : (0 : Int) ≤ (A253 0 54) ∧ (A253 0 54) ≤ 8 := hI 0 54
            have ca259 : A49 36 = A 36 := by rw [hA49]; exact rfl
            have ca260 : A49 39 = A 39 := by rw [hA49]; exact rfl
            have ca261 : A49 40 = A 40 := by rw [hA49]; exact rfl
            have ca262 : A253 40 = A 40 := (hf255.1 40 (by decide) rfl).trans ca261
            exact RET 0 _ _ _ _ _ ⟨hk5 _ _ (u_d_X12_operand_5 ⟨z120, ghw122, (Or.inr ⟨c123, ⟨A253, ghw254, ⟨rfl, rfl⟩⟩⟩)⟩), hI, fr.trans (fr_def hA49 (fr.st (fr.rf) (by decide) rfl)) hf255 rfl rfl, (CI.fr (CI.fr hcCI (fr_def hA49 (fr.st (fr.rf (M := [37]) (N := [])) (by decide) rfl)) rfl rfl) hf255 rfl rfl), ⟨by decide, Hd.mk (fun h0 => by have g := hw254.out (by omega); exact ⟨g.1, ⟨PR.push hp2 (by omega) (g.2.2.2.1.trans (by rw [ca256, show A49 0 53 = A 0 53 by omega])) (by have := g.2.2.2.2.1; omega) ca258 (by decide), SP.opn hp3 hI0 (by omega) (g.2.2.2.2.2.1.trans (by rw [ca259, show A49 0 53 = A 0 53 by omega])) (g.2.2.2.2.2.2.trans (by rw [ca260, show A49 0 53 = A 0 53 by omega, show A49 0 56 = A 0 56 by omega])) ca262 (by have := g.2.2.2.2.1; omega) e_A253_56⟩, by have := g.2.1; omega⟩)⟩⟩ hP hS (dk_at dkX12_operand_4 12 rfl)
        refine lv_if_eq (tgt := 121) hx hb (dk_at dkX12_operand_3 2 rfl) (by decide) (fun c74 => ?_) (fun c74 => ?_)
        · have c74 : z11 = 0 := (i_eq0 (rb f13 (by decide) (by decide))).mp c74
          exact J121_75 _ _ _ (fun zq uq hq => hk4 _ _ (u_d_X12_operand_4 (Or.inl ⟨c74, hq⟩))) hP hS (lv_sub hl [0, 1, 2] rfl)
        · have c74 : ¬ z11 = 0 := mt (i_eq0 (rb f13 (by decide) (by decide))).mpr c74
          refine lv_aload_n hx hb (dk_at dkX12_operand_3 3 rfl) rfl (lv_at hl 2 rfl) ?_
          refine lv_ldc2 (v := 6384748) hx hb hown (hts _ (List.mem_cons_of_mem _ wlq_1_3)) (dk_at dkX12_operand_3 4 rfl) ?_
          refine tp_l (y := jI 6384748) (by decide +kernel) ?_
          refine x_calli (As := [.long (jI 6384748)]) (rest := []) ⟨hx, hb, hml, hown, hts⟩ (mb_X12_isWord l dC dI cB cI cJ cZ cQ q _ 6384748 hI ⟨by decide, by decide⟩) (cwV 1 hts (goodV wlq_1_59 wlq_2_0 wlq_2_1 wlq_0_8 wlq_0_35) rfl rfl rfl (by decide +kernel) ⟨Nat.le_of_ble_eq_true rfl, Nat.le_of_ble_eq_true rfl⟩) hK hDD hA0 hP hS 0 12 wm0 rfl rfl hl.1 (Nat.le_of_ble_eq_true rfl) (dk_at dkX12_operand_3 5 rfl) (fun z76 A77 H locs hw78 hP hS => ?_)
          obtain ⟨rfl, hw78⟩ := hw78
          have ghw78 : q_X12_isWord 6384748 A49 z76 := hw78
          have hw78 := hw78.2
          have rz76 : 0 ≤ z76 ∧ z76 ≤ 1 := hw78.1
          replace hw78 := Hd.mk hw78.2
          refine lv_if_eq (tgt := 121) hx hb (dk_at dkX12_operand_3 6 rfl) (by decide) (fun c79 => ?_) (fun c79 => ?_)
          · have c79 : z76 = 0 := (i_eq0 (rb rz76 (by decide) (by decide))).mp c79
            exact J121_75 _ _ _ (fun zq uq hq => hk4 _ _ (u_d_X12_operand_4 (Or.inr ⟨c74, ⟨z76, ghw78, (Or.inl ⟨c79, hq⟩)⟩⟩))) hP hS (lv_sub hl [0, 1, 2] rfl)
          · have c79 : ¬ z76 = 0 := mt (i_eq0 (rb rz76 (by decide) (by decide))).mpr c79
            have hw78b := hw78.out.mp (by omega)
            have hlt := RI.lt hri1 (by omega)
            refine lv_aload_n hx hb (dk_at dkX12_operand_3 7 rfl) rfl (lv_at hl 2 rfl) ?_
            refine lv_bipush (v := iI 9) hx hb (dk_at dkX12_operand_3 8 rfl) (by decide +kernel) ?_
            refine lv_iconst (v := iI 0) hx hb (dk_at dkX12_operand_3 9 rfl) (by decide +kernel) ?_
            refine x_callv (As := [.int (iI 9), .int (iI 0)]) (rest := []) ⟨hx, hb, hml, hown, hts⟩ (mb_X12_add l dC dI cB cI cJ cZ cQ q _ 9 0 hI ⟨by decide, by decide⟩ ⟨by decide, by decide⟩ (by omega) (CI.fr hcCI (fr_def hA49 (fr.st (fr.rf (M := [37]) (N := [])) (by decide) rfl)) rfl rfl)) (cwV 2 hts (goodV wlq_1_41 wlq_1_42 wlq_1_43 wlq_0_8 wlq_1_29) rfl rfl rfl (by decide +kernel) ⟨Nat.le_of_ble_eq_true rfl, Nat.le_of_ble_eq_true rfl⟩) hK hDD hA0 hP hS 0 12 wm0 rfl rfl hl.1 (Nat.le_of_ble_eq_true rfl) (dk_at dkX12_operand_3 10 rfl) (fun A80 H locs hw81 hP hS => ?_)
            have ghw81 : q_X12_add 9 0 A49 A80 := hw81
            obtain ⟨_, hI, hf82, hw81⟩ := hw81
            obtain ⟨hc83, hw81⟩ := hw81
            have r_A80_0_46 : (0 : Int) ≤ (A80 0 46) ∧ (A80 0 46) ≤ 1600 := hI 0 46
            refine lv_aload_n hx hb (dk_at dkX12_operand_3 11 rfl) rfl (lv_at hl 2 rfl) ?_
            refine va_get (D := (dC, dI)) (ci := 12) (v := .ref (q 36)) (C := RX12) (T := TX12) (N := 85) hx hb hts hiX12 hown hK hP 0 wm0 rfl 49 (by decide) (hts _ (List.mem_cons_of_mem _ wlq_1_47)) (fun _ h9 => h9) rfl (dk_at dkX12_operand_3 12 rfl) ?_
            refine lv_iload_n hx hb (dk_at dkX12_operand_3 13 rfl) rfl (lv_at hl 1 rfl) ?_
            refine lv_iconst (v := iI 2) hx hb (dk_at dkX12_operand_3 14 rfl) (by decide +kernel) ?_
            refine x_iast hx hb hK hP hDD hS 36 1 wm36 rfl (by omega) (by decide) (dk_at dkX12_operand_3 15 rfl) ws36 (fun H locs hP hS => ?_)
            have hI := hI.st (j := 36) (i := ((A 0 53) - 1).toNat) (v := 2) (show (0 : Int) ≤ 2 ∧ 2 ≤ 2 from (by omega))
            refine lv_aload_n hx hb (dk_at dkX12_operand_4 0 rfl) rfl (lv_at hl 2 rfl) ?_
            obtain ⟨A84, hA84⟩ : ∃ A84 : St, A84 = (stA A80 36 ((A 0 53) - 1).toNat 2) := ⟨_, rfl⟩
            rw [← hA84] at hP hI
            have e_A80_4 : A80 0 4 = (A 0 4) := (hf82.2 4 rfl).trans e_A49_4
            have e_A84_4 : A84 0 4 = (A 0 4) := by rw [hA84]; exact e_A80_4
            have e_A80_5 : A80 0 5 = (A 0 5) := (hf82.2 5 rfl).trans e_A49_5
            have e_A84_5 : A84 0 5 = (A 0 5) := by rw [hA84]; exact e_A80_5
            have e_A80_8 : A80 0 8 = (A 0 8) := (hf82.2 8 rfl).trans e_A49_8
            have e_A84_8 : A84 0 8 = (A 0 8) := by rw [hA84]; exact e_A80_8
            refine x_callv (As := []) (rest := []) ⟨hx, hb, hml, hown, hts⟩ (mb_X12_ahead l dC dI cB cI cJ cZ cQ q _ hI) (cwV 0 hts (goodV wlq_0_40 wlq_0_41 wlq_0_42 wlq_0_8 wlq_0_20) rfl rfl rfl (by decide +kernel) ⟨Nat.le_of_ble_eq_true rfl, Nat.le_of_ble_eq_true rfl⟩) hK hDD hA0 hP hS 0 12 wm0 rfl rfl hl.1 (Nat.le_of_ble_eq_true rfl) (dk_at dkX12_operand_4 1 rfl) (fun A85 H locs hw86 hP hS => ?_)
            have ghw86 : q_X12_ahead A84 A85 := hw86
            obtain ⟨_, hI, hf87, hw86⟩ := hw86
            have r_A85_0_3 : (0 : Int) ≤ (A85 0 3) ∧ (A85 0 3) ≤ 3 := hI 0 3
            have r_A85_0_4 : (0 : Int) ≤ (A85 0 4) ∧ (A85 0 4) ≤ 1600 := hI 0 4
            have r_A85_0_5 : (0 : Int) ≤ (A85 0 5) ∧ (A85 0 5) ≤ 1600 := hI 0 5
            have r_A85_0_8 : (0 : Int) ≤ (A85 0 8) ∧ (A85 0 8) ≤ 5 := hI 0 8
            refine lv_iconst (v := iI 1) hx hb (dk_at dkX12_operand_4 2 rfl) (by decide +kernel) ?_
            have ca88 : A49 36 = A 36 := by rw [hA49]; exact rfl
            have ca89 : A80 36 = A 36 := (hf82.1 36 (by decide) rfl).trans ca88
            have e36 : A84 36 = up (A 36) (A 0 53 - 1).toNat 2 := by rw [hA84]; show up (A80 36) _ _ = _; rw [ca89]
            have ca90 : A85 36 = A84 36 := (hf87.1 36 (by decide) rfl)
            have ca91 : A49 39 = A 39 := by rw [hA49]; exact rfl
            have ca92 : A80 39 = A 39 := (hf82.1 39 (by decide) rfl).trans ca91
            have ca93 : A84 39 = A 39 := by rw [hA84]; exact ca92
            have ca94 : A85 39 = A 39 := (hf87.1 39 (by decide) rfl).trans ca93
            have ca95 : A49 40 = A 40 := by rw [hA49]; exact rfl
            have ca96 : A80 40 = A 40 := (hf82.1 40 (by decide) rfl).trans ca95
            have ca97 : A84 40 = A 40 := by rw [hA84]; exact ca96
            have ca98 : A85 40 = A 40 := (hf87.1 40 (by decide) rfl).trans ca97
            have e_A80_53 : A80 0 53 = (A 0 53) := (hf82.2 53 rfl).trans e_A49_53
            have e_A84_53 : A84 0 53 = (A 0 53) := by rw [hA84]; exact e_A80_53
            have e_A85_53 : A85 0 53 = (A 0 53) := (hf87.2 53 rfl).trans e_A84_53
            have e_A80_56 : A80 0 56 = (A 0 56) := (hf82.2 56 rfl).trans e_A49_56
            have e_A84_56 : A84 0 56 = (A 0 56) := by rw [hA84]; exact e_A80_56
            have e_A85_56 : A85 0 56 = (A 0 56) := (hf87.2 56 rfl).trans e_A84_56
            have r_A85_0_7 : (-9223372036854775808 : Int) ≤ (A85 0 7) ∧ (A85 0 7) ≤ 9223372036854775807 := hI 0 7
            have ca99 : A84 33 = A80 33 := by rw [hA84]; exact rfl
            have ca100 : A85 33 = A80 33 := (hf87.1 33 (by decide) rfl).trans ca99
            have e_A84_46 : A84 0 46 = (A80 0 46) := by rw [hA84]; exact rfl
            have e_A85_46 : A85 0 46 = (A80 0 46) := (hf87.2 46 rfl).trans e_A84_46
            have e_A80_47 : A80 0 47 = (A 0 47) := (hf82.2 47 rfl).trans e_A49_47
            have e_A84_47 : A84 0 47 = (A 0 47) := by rw [hA84]; exact e_A80_47
            have e_A85_47 : A85 0 47 = (A 0 47) := (hf87.2 47 rfl).trans e_A84_47
            have e_A80_54 : A80 0 54 = (A 0 54) := (hf82.2 54 rfl).trans e_A49_54
            have e_A84_54 : A84 0 54 = (A 0 54) := by rw [hA84]; exact e_A80_54
            have e_A85_54 : A85 0 54 = (A 0 54) := (hf87.2 54 rfl).trans e_A84_54
            have ca101 : A80 29 = A49 29 := (hf82.1 29 (by decide) rfl)
            have ca102 : A84 29 = A49 29 := by rw [hA84]; exact ca101
            have ca103 : A85 29 = A49 29 := (hf87.1 29 (by decide) rfl).trans ca102
            have ca104 : A80 31 = A49 31 := (hf82.1 31 (by decide) rfl)
            have ca105 : A84 31 = A49 31 := by rw [hA84]; exact ca104
            have ca106 : A85 31 = A49 31 := (hf87.1 31 (by decide) rfl).trans ca105
            have ca107 : A80 35 = A49 35 := (hf82.1 35 (by decide) rfl)
            have ca108 : A84 35 = A49 35 := by rw [hA84]; exact ca107
            have ca109 : A85 35 = A49 35 := (hf87.1 35 (by decide) rfl).trans ca108
            have ca110 : A80 37 = A49 37 := (hf82.1 37 (by decide) rfl)
            have ca111 : A84 37 = A49 37 := by rw [hA84]; exact ca110
            have ca112 : A85 37 = A49 37 := (hf87.1 37 (by decide) rfl).trans ca111
            have ca113 : A80 39 = A49 39 := (hf82.1 39 (by decide) rfl)
            have ca114 : A84 39 = A49 39 := by rw [hA84]; exact ca113
            have ca115 : A85 39 = A49 39 := (hf87.1 39 (by decide) rfl).trans ca114
            have ca116 : A80 40 = A49 40 := (hf82.1 40 (by decide) rfl)
            have ca117 : A84 40 = A49 40 := by rw [hA84]; exact ca116
            have ca118 : A85 40 = A49 40 := (hf87.1 40 (by decide) rfl).trans ca117
            exact RET 1 _ _ _ _ _ ⟨hk4 _ _ (u_d_X12_operand_4 (Or.inr ⟨c74, ⟨z76, ghw78, (Or.inr ⟨c79, ⟨A80, ghw81, ⟨A84, hA84, ⟨A85, ghw86, ⟨rfl, rfl⟩⟩⟩⟩⟩)⟩⟩)), hI, fr.trans (fr_def hA84 (fr.st (fr.trans (fr_def hA49 (fr.st (fr.rf) (by decide) rfl)) hf82 rfl rfl) (by decide) rfl)) hf87 rfl rfl, (CI.fr (CI.fr hc83 (fr_def hA84 (fr.st (fr.rf (M := [36]) (N := [])) (by decide) rfl)) rfl rfl) hf87 rfl rfl), ⟨by decide, Hd.mk (fun h0 => ⟨RI.val (r37 := A49 37) hri1 hI1 (by omega) (x := 9) (by omega) (fun _ _ => rfl) hb1 ⟨ca103, ca106, (ca100.trans (hw81.2.trans (by rw [show A49 0 47 = A49 0 47 by omega, show A49 0 46 = A49 0 46 by omega]))), ca109, ca112, ca115, ca118, (by omega), (e_A85_47.trans e_A49_47.symm), (e_A85_53.trans e_A49_53.symm), (e_A85_54.trans e_A49_54.symm), (e_A85_56.trans e_A49_56.symm)⟩ (by omega) (by omega) hw86.2.2.1, ⟨(PR.fr (PR.fr (PR.fr (PR.fr hp2 (fr_def hA49 (fr.st (fr.rf (M := [37]) (N := [])) (by decide) rfl)) rfl rfl) hf82 rfl rfl) (fr_def hA84 (fr.st (fr.rf (M := [36]) (N := [])) (by decide) rfl)) rfl rfl) hf87 rfl rfl), SP.two hp3 (by omega) (ca90.trans e36) ca94 ca98 e_A85_53 e_A85_56⟩, by omega⟩)⟩⟩ hP hS (dk_at dkX12_operand_4 3 rfl)
      refine lv_if_eq (tgt := 87) hx hb (dk_at dkX12_operand_2 7 rfl) (by decide) (fun c57 => ?_) (fun c57 => ?_)
      · have c57 : z11 = 0 := (i_eq0 (rb f13 (by decide) (by decide))).mp c57
        exact J87_58 _ _ _ (fun zq uq hq => hk3 _ _ (u_d_X12_operand_3 ⟨A49, hA49, (Or.inl ⟨c57, hq⟩)⟩)) hP hS (lv_sub hl [0, 1, 2] rfl)
      · have c57 : ¬ z11 = 0 := mt (i_eq0 (rb f13 (by decide) (by decide))).mpr c57
        refine lv_aload_n hx hb (dk_at dkX12_operand_2 8 rfl) rfl (lv_at hl 2 rfl) ?_
        refine lv_bipush (v := iI 91) hx hb (dk_at dkX12_operand_2 9 rfl) (by decide +kernel) ?_
        have e_A49_6 : A49 0 6 = (A 0 6) := by rw [hA49]; exact rfl
        have r_A_0_6 : (-2147483648 : Int) ≤ (A 0 6) ∧ (A 0 6) ≤ 2147483647 := by rw [← e_A49_6]; exact hI 0 6
        refine x_calli (As := [.int (iI 91)]) (rest := []) ⟨hx, hb, hml, hown, hts⟩ (mb_X12_isSign l dC dI cB cI cJ cZ cQ q _ 91 hI ⟨by decide, by decide⟩) (cwV 1 hts (goodV wlq_0_37 wlq_0_38 wlq_0_39 wlq_0_8 wlq_0_34) rfl rfl rfl (by decide +kernel) ⟨Nat.le_of_ble_eq_true rfl, Nat.le_of_ble_eq_true rfl⟩) hK hDD hA0 hP hS 0 12 wm0 rfl rfl hl.1 (Nat.le_of_ble_eq_true rfl) (dk_at dkX12_operand_2 10 rfl) (fun z59 A60 H locs hw61 hP hS => ?_)
        obtain ⟨rfl, hw61⟩ := hw61
        have ghw61 : q_X12_isSign 91 A49 z59 := hw61
        have hw61 := hw61.2
        have rz59 : 0 ≤ z59 ∧ z59 ≤ 1 := hw61.1
        replace hw61 := Hd.mk hw61.2
        refine lv_if_eq (tgt := 87) hx hb (dk_at dkX12_operand_2 11 rfl) (by decide) (fun c62 => ?_) (fun c62 => ?_)
        · have c62 : z59 = 0 := (i_eq0 (rb rz59 (by decide) (by decide))).mp c62
          exact J87_58 _ _ _ (fun zq uq hq => hk3 _ _ (u_d_X12_operand_3 ⟨A49, hA49, (Or.inr ⟨c57, ⟨z59, ghw61, (Or.inl ⟨c62, hq⟩)⟩⟩)⟩)) hP hS (lv_sub hl [0, 1, 2] rfl)
        · have c62 : ¬ z59 = 0 := mt (i_eq0 (rb rz59 (by decide) (by decide))).mpr c62
          have hw61b := hw61.out.mp (by omega)
          refine lv_aload_n hx hb (dk_at dkX12_operand_2 12 rfl) rfl (lv_at hl 2 rfl) ?_
          refine lv_iconst (v := iI 5) hx hb (dk_at dkX12_operand_2 13 rfl) (by decide +kernel) ?_
          refine x_callv (As := [.int (iI 5)]) (rest := []) ⟨hx, hb, hml, hown, hts⟩ (mb_X12_opens l dC dI cB cI cJ cZ cQ q _ 5 hI ⟨by decide, by decide⟩ (by exact Hd.mk (fun _ => ⟨hri1, by omega, hb1⟩)) (by omega)) (cwV 1 hts (goodV wlq_2_5 wlq_2_6 wlq_2_7 wlq_0_8 wlq_1_49) rfl rfl rfl (by decide +kernel) ⟨Nat.le_of_ble_eq_true rfl, Nat.le_of_ble_eq_true rfl⟩) hK hDD hA0 hP hS 0 12 wm0 rfl rfl hl.1 (Nat.le_of_ble_eq_true rfl) (dk_at dkX12_operand_2 14 rfl) (fun A63 H locs hw64 hP hS => ?_)
          have ghw64 : q_X12_opens 5 A49 A63 := hw64
          obtain ⟨_, hI, hf65, hw64⟩ := hw64
          have r_A63_0_4 : (0 : Int) ≤ (A63 0 4) ∧ (A63 0 4) ≤ 1600 := hI 0 4
          have r_A63_0_8 : (0 : Int) ≤ (A63 0 8) ∧ (A63 0 8) ≤ 5 := hI 0 8
          have r_A63_0_53 : (0 : Int) ≤ (A63 0 53) ∧ (A63 0 53) ≤ 20 := hI 0 53
          refine lv_iconst (v := iI 0) hx hb (dk_at dkX12_operand_2 15 rfl) (by decide +kernel) ?_
          have r_A63_0_5 : (0 : Int) ≤ (A63 0 5) ∧ (A63 0 5) ≤ 1600 := hI 0 5
          have hlt := RI.lt hp0 (by omega)
          have ca66 : A49 35 = A 35 := by rw [hA49]; exact rfl
          have ca67 : A49 38 = A 38 := by rw [hA49]; exact rfl
          have ca68 : A63 38 = A 38 := (hf65.1 38 (by decide) rfl).trans ca67
          have e_A63_46 : A63 0 46 = (A 0 46) := (hf65.2 46 rfl).trans e_A49_46
          have e_A63_47 : A63 0 47 = (A 0 47) := (hf65.2 47 rfl).trans e_A49_47
          have e_A63_56 : A63 0 56 = (A 0 56) := (hf65.2 56 rfl).trans e_A49_56
          have r_A63_0_3 : (0 : Int) ≤ (A63 0 3) ∧ (A63 0 3) ≤ 3 := hI 0 3
          have r_A63_0_7 : (-9223372036854775808 : Int) ≤ (A63 0 7) ∧ (A63 0 7) ≤ 9223372036854775807 := hI 0 7
          have r_A63_0_54 : (0 : Int) ≤ (A63 0 54) ∧ (A63 0 54) ≤ 8 := hI 0 54
          have ca69 : A49 36 = A 36 := by rw [hA49]; exact rfl
          have ca70 : A49 39 = A 39 := by rw [hA49]; exact rfl
          have ca71 : A49 40 = A 40 := by rw [hA49]; exact rfl
          have ca72 : A63 40 = A 40 := (hf65.1 40 (by decide) rfl).trans ca71
          exact RET 0 _ _ _ _ _ ⟨hk3 _ _ (u_d_X12_operand_3 ⟨A49, hA49, (Or.inr ⟨c57, ⟨z59, ghw61, (Or.inr ⟨c62, ⟨A63, ghw64, ⟨rfl, rfl⟩⟩⟩)⟩⟩)⟩), hI, fr.trans (fr_def hA49 (fr.st (fr.rf) (by decide) rfl)) hf65 rfl rfl, (CI.fr (CI.fr hcCI (fr_def hA49 (fr.st (fr.rf (M := [37]) (N := [])) (by decide) rfl)) rfl rfl) hf65 rfl rfl), ⟨by decide, Hd.mk (fun h0 => by have g := hw64.out (by omega); exact ⟨g.1, ⟨PR.push hp2 (by omega) (g.2.2.2.1.trans (by rw [ca66, show A49 0 53 = A 0 53 by omega])) (by have := g.2.2.2.2.1; omega) ca68 (by decide), SP.opn hp3 hI0 (by omega) (g.2.2.2.2.2.1.trans (by rw [ca69, show A49 0 53 = A 0 53 by omega])) (g.2.2.2.2.2.2.trans (by rw [ca70, show A49 0 53 = A 0 53 by omega, show A49 0 56 = A 0 56 by omega])) ca72 (by have := g.2.2.2.2.1; omega) e_A63_56⟩, by have := g.2.1; omega⟩)⟩⟩ hP hS (dk_at dkX12_operand_3 0 rfl)
    refine lv_if_eq (tgt := 60) hx hb (dk_at dkX12_operand_1 5 rfl) (by decide) (fun c16 => ?_) (fun c16 => ?_)
    · have c16 : z11 = 0 := (i_eq0 (rb f13 (by decide) (by decide))).mp c16
      exact J60_17 _ _ _ (fun zq uq hq => hk2 _ _ (u_d_X12_operand_2 ⟨f13, (Or.inl ⟨c16, hq⟩)⟩)) hP hS (lv_sub hl [0, 1, 2] rfl)
    · have c16 : ¬ z11 = 0 := mt (i_eq0 (rb f13 (by decide) (by decide))).mpr c16
      refine lv_aload_n hx hb (dk_at dkX12_operand_1 6 rfl) rfl (lv_at hl 2 rfl) ?_
      refine lv_ldc2 (v := 7237492) hx hb hown (hts _ (List.mem_cons_of_mem _ wlq_1_2)) (dk_at dkX12_operand_1 7 rfl) ?_
      refine tp_l (y := jI 7237492) (by decide +kernel) ?_
      refine x_calli (As := [.long (jI 7237492)]) (rest := []) ⟨hx, hb, hml, hown, hts⟩ (mb_X12_isWord l dC dI cB cI cJ cZ cQ q _ 7237492 hI ⟨by decide, by decide⟩) (cwV 1 hts (goodV wlq_1_59 wlq_2_0 wlq_2_1 wlq_0_8 wlq_0_35) rfl rfl rfl (by decide +kernel) ⟨Nat.le_of_ble_eq_true rfl, Nat.le_of_ble_eq_true rfl⟩) hK hDD hA0 hP hS 0 12 wm0 rfl rfl hl.1 (Nat.le_of_ble_eq_true rfl) (dk_at dkX12_operand_1 8 rfl) (fun z18 A19 H locs hw20 hP hS => ?_)
      obtain ⟨rfl, hw20⟩ := hw20
      have ghw20 : q_X12_isWord 7237492 A z18 := hw20
      have hw20 := hw20.2
      have rz18 : 0 ≤ z18 ∧ z18 ≤ 1 := hw20.1
      replace hw20 := Hd.mk hw20.2
      refine lv_if_eq (tgt := 60) hx hb (dk_at dkX12_operand_1 9 rfl) (by decide) (fun c21 => ?_) (fun c21 => ?_)
      · have c21 : z18 = 0 := (i_eq0 (rb rz18 (by decide) (by decide))).mp c21
        exact J60_17 _ _ _ (fun zq uq hq => hk2 _ _ (u_d_X12_operand_2 ⟨f13, (Or.inr ⟨c16, ⟨z18, ghw20, (Or.inl ⟨c21, hq⟩)⟩⟩)⟩)) hP hS (lv_sub hl [0, 1, 2] rfl)
      · have c21 : ¬ z18 = 0 := mt (i_eq0 (rb rz18 (by decide) (by decide))).mpr c21
        have hw20b := hw20.out.mp (by omega)
        refine lv_aload_n hx hb (dk_at dkX12_operand_1 10 rfl) rfl (lv_at hl 2 rfl) ?_
        refine lv_bipush (v := iI 22) hx hb (dk_at dkX12_operand_1 11 rfl) (by decide +kernel) ?_
        refine x_callv (As := [.int (iI 22)]) (rest := []) ⟨hx, hb, hml, hown, hts⟩ (mb_X12_holdsBack l dC dI cB cI cJ cZ cQ q _ 22 hI ⟨by decide, by decide⟩ (by omega)) (cwV 1 hts (goodV wlq_2_2 wlq_2_3 wlq_2_4 wlq_0_8 wlq_1_44) rfl rfl rfl (by decide +kernel) ⟨Nat.le_of_ble_eq_true rfl, Nat.le_of_ble_eq_true rfl⟩) hK hDD hA0 hP hS 0 12 wm0 rfl rfl hl.1 (Nat.le_of_ble_eq_true rfl) (dk_at dkX12_operand_1 12 rfl) (fun A22 H locs hw23 hP hS => ?_)
        have ghw23 : q_X12_holdsBack 22 A A22 := hw23
        obtain ⟨_, hI, hf24, hw23⟩ := hw23
        have r_A22_0_56 : (0 : Int) ≤ (A22 0 56) ∧ (A22 0 56) ≤ 500 := hI 0 56
        refine lv_aload_n hx hb (dk_at dkX12_operand_1 13 rfl) rfl (lv_at hl 2 rfl) ?_
        have e_A22_4 : A22 0 4 = (A 0 4) := (hf24.2 4 rfl)
        have e_A22_5 : A22 0 5 = (A 0 5) := (hf24.2 5 rfl)
        have e_A22_8 : A22 0 8 = (A 0 8) := (hf24.2 8 rfl)
        refine x_callv (As := []) (rest := []) ⟨hx, hb, hml, hown, hts⟩ (mb_X12_ahead l dC dI cB cI cJ cZ cQ q _ hI) (cwV 0 hts (goodV wlq_0_40 wlq_0_41 wlq_0_42 wlq_0_8 wlq_0_20) rfl rfl rfl (by decide +kernel) ⟨Nat.le_of_ble_eq_true rfl, Nat.le_of_ble_eq_true rfl⟩) hK hDD hA0 hP hS 0 12 wm0 rfl rfl hl.1 (Nat.le_of_ble_eq_true rfl) (dk_at dkX12_operand_1 14 rfl) (fun A25 H locs hw26 hP hS => ?_)
        have ghw26 : q_X12_ahead A22 A25 := hw26
        obtain ⟨_, hI, hf27, hw26⟩ := hw26
        have r_A25_0_3 : (0 : Int) ≤ (A25 0 3) ∧ (A25 0 3) ≤ 3 := hI 0 3
        have r_A25_0_4 : (0 : Int) ≤ (A25 0 4) ∧ (A25 0 4) ≤ 1600 := hI 0 4
        have r_A25_0_5 : (0 : Int) ≤ (A25 0 5) ∧ (A25 0 5) ≤ 1600 := hI 0 5
        have r_A25_0_8 : (0 : Int) ≤ (A25 0 8) ∧ (A25 0 8) ≤ 5 := hI 0 8
        refine lv_iconst (v := iI 0) hx hb (dk_at dkX12_operand_1 15 rfl) (by decide +kernel) ?_
        have hlt := RI.lt hp0 (by omega)
        have ca28 : A25 40 = A22 40 := (hf27.1 40 (by decide) rfl)
        have e_A22_46 : A22 0 46 = (A 0 46) := (hf24.2 46 rfl)
        have e_A25_46 : A25 0 46 = (A 0 46) := (hf27.2 46 rfl).trans e_A22_46
        have e_A22_47 : A22 0 47 = (A 0 47) := (hf24.2 47 rfl)
        have e_A25_47 : A25 0 47 = (A 0 47) := (hf27.2 47 rfl).trans e_A22_47
        have e_A22_53 : A22 0 53 = (A 0 53) := (hf24.2 53 rfl)
        have e_A25_53 : A25 0 53 = (A 0 53) := (hf27.2 53 rfl).trans e_A22_53
        have e_A22_54 : A22 0 54 = (A 0 54) := (hf24.2 54 rfl)
        have e_A25_54 : A25 0 54 = (A 0 54) := (hf27.2 54 rfl).trans e_A22_54
        have e_A25_56 : A25 0 56 = (A22 0 56) := (hf27.2 56 rfl)
        have r_A25_0_7 : (-9223372036854775808 : Int) ≤ (A25 0 7) ∧ (A25 0 7) ≤ 9223372036854775807 := hI 0 7
        have ca29 : A22 29 = A 29 := (hf24.1 29 (by decide) rfl)
        have ca30 : A25 29 = A 29 := (hf27.1 29 (by decide) rfl).trans ca29
        have ca31 : A22 31 = A 31 := (hf24.1 31 (by decide) rfl)
        have ca32 : A25 31 = A 31 := (hf27.1 31 (by decide) rfl).trans ca31
        have ca33 : A22 33 = A 33 := (hf24.1 33 (by decide) rfl)
        have ca34 : A25 33 = A 33 := (hf27.1 33 (by decide) rfl).trans ca33
        have ca35 : A22 35 = A 35 := (hf24.1 35 (by decide) rfl)
        have ca36 : A25 35 = A 35 := (hf27.1 35 (by decide) rfl).trans ca35
        have ca37 : A22 37 = A 37 := (hf24.1 37 (by decide) rfl)
        have ca38 : A25 37 = A 37 := (hf27.1 37 (by decide) rfl).trans ca37
        have ca39 : A22 39 = A 39 := (hf24.1 39 (by decide) rfl)
        have ca40 : A25 39 = A 39 := (hf27.1 39 (by decide) rfl).trans ca39
        have ca41 : A22 1 = A 1 := (hf24.1 1 (by decide) rfl)
        have ca42 : A22 1 = A 1 := (hf24.1 1 (by decide) rfl)
        have ca43 : A25 1 = A 1 := (hf27.1 1 (by decide) rfl).trans ca42
        have ca44 : A22 36 = A 36 := (hf24.1 36 (by decide) rfl)
        have ca45 : A25 36 = A 36 := (hf27.1 36 (by decide) rfl).trans ca44
        have ca46 : A22 39 = A 39 := (hf24.1 39 (by decide) rfl)
        have ca47 : A25 39 = A 39 := (hf27.1 39 (by decide) rfl).trans ca46
        exact RET 0 _ _ _ _ _ ⟨hk2 _ _ (u_d_X12_operand_2 ⟨f13, (Or.inr ⟨c16, ⟨z18, ghw20, (Or.inr ⟨c21, ⟨A22, ghw23, ⟨A25, ghw26, ⟨rfl, rfl⟩⟩⟩⟩)⟩⟩)⟩), hI, fr.trans (fr.trans (fr.rf) hf24 rfl rfl) hf27 rfl rfl, (CI.fr (CI.fr hcCI hf24 rfl rfl) hf27 rfl rfl), ⟨by decide, Hd.mk (fun h0 => ⟨RI.nt hp0 hI0 (by omega) (by omega) (f15.out (by omega)) ⟨ca30, ca32, ca34, ca36, ca38, ca40, (ca28.trans hw23.2), e_A25_46, e_A25_47, e_A25_53, e_A25_54, (by omega)⟩ ca43 (by omega) (by omega) hw26.2.2.1 (fun a b => by have g := hw26.2.2.2.2 (by omega) a b; rw [ca41] at g; exact g), ⟨(PR.fr (PR.fr hp2 hf24 rfl rfl) hf27 rfl rfl), SP.push (r36 := A 36) (ph := A 36 (A 0 53 - 1).toNat) hp3 hI0 hp0.2.1 (by omega) ca45 (fun _ _ => rfl) rfl ca47 (ca28.trans hw23.2) (by omega) (by omega) (hp0.2.2.2.1.2.2 (f15.out (by omega))) (fun h => ⟨by decide, Or.inl h⟩)⟩, by omega⟩)⟩⟩ hP hS (dk_at dkX12_operand_2 0 rfl)
  have J32_6 : ∀ (H : Heap) (locs : List Loc) (ls : Array Slot), (∀ (z : Int) (u : St), (d_X12_operand_1 A z u) → r_X12_operand A z u) → va_P (dC, dI) vwCl (WM cI cJ cZ q A) H → va_S AS s.heap H locs → lv_has ls 4 [(1, .int (iI ((A 0 53) - 1))), (0, .ref (q 0))] → W p l e (headSpec ws_mb_X12_operand ({ frames := 3, cells := 0, slots := 0, locals := 68 } : Room)).room s m [.ref (q 0)].toArray below meth c H locs 0 0 Q (F0 m 32 ls []) := by
    intro H locs ls hk1 hP hS hl
    refine lv_iconst (v := iI 0) hx hb (dk_at dkX12_operand_1 2 rfl) (by decide +kernel) ?_
    exact J33_7 0 _ _ _ (by omega) (by omega) (by exact Hd.mk (by  omega)) (fun zq uq hq => hk1 _ _ (u_d_X12_operand_1 hq)) hP hS (lv_sub hl [0, 1] rfl)
  refine lv_if_eq (tgt := 32) hx hb (dk_at dkX12_operand_0 10 rfl) (by decide) (fun c5 => ?_) (fun c5 => ?_)
  · have c5 : z2 = 0 := (i_eq0 (rb hw4 (by decide) (by decide))).mp c5
    exact J32_6 _ _ _ (fun zq uq hq => (u_r_X12_operand ⟨z1, gz1.out, ⟨z2, ghw4, (Or.inl ⟨c5, hq⟩)⟩⟩)) hP hS (lv_sub hl [0, 1] rfl)
  · have c5 : ¬ z2 = 0 := mt (i_eq0 (rb hw4 (by decide) (by decide))).mpr c5
    refine lv_aload_n hx hb (dk_at dkX12_operand_0 11 rfl) rfl (lv_at hl 1 rfl) ?_
    refine va_get (D := (dC, dI)) (ci := 12) (v := .ref (q 37)) (C := RX12) (T := TX12) (N := 85) hx hb hts hiX12 hown hK hP 0 wm0 rfl 50 (by decide) (hts _ (List.mem_cons_of_mem _ wlq_1_48)) (fun _ h9 => h9) rfl (dk_at dkX12_operand_0 12 rfl) ?_
    refine lv_iload_n hx hb (dk_at dkX12_operand_0 13 rfl) rfl (lv_at hl 0 rfl) ?_
    refine x_zald hx hb hK hP 37 3 wm37 rfl (by omega) (by decide) (dk_at dkX12_operand_0 14 rfl) (fun z8 hz8 => ?_)
    have rz8 : (0 : Int) ≤ z8 ∧ z8 ≤ 1 := by rw [hz8]; exact hI 37 _
    have gz8 := Hd.mk hz8
    have hz8 : z8 = A 37 ((A 0 53) - 1).toNat := hz8
    refine lv_if_eq (tgt := 32) hx hb (dk_at dkX12_operand_0 15 rfl) (by decide) (fun c9 => ?_) (fun c9 => ?_)
    · have c9 : z8 = 0 := (i_eq0 (rb rz8 (by decide) (by decide))).mp c9
      exact J32_6 _ _ _ (fun zq uq hq => (u_r_X12_operand ⟨z1, gz1.out, ⟨z2, ghw4, (Or.inr ⟨c5, ⟨z8, gz8.out, (Or.inl ⟨c9, hq⟩)⟩⟩)⟩⟩)) hP hS (lv_sub hl [0, 1] rfl)
    · have c9 : ¬ z8 = 0 := mt (i_eq0 (rb rz8 (by decide) (by decide))).mpr c9
      refine lv_iconst (v := iI 1) hx hb (dk_at dkX12_operand_1 0 rfl) (by decide +kernel) ?_
      refine lv_goto (tgt := 33) hx hb (dk_at dkX12_operand_1 1 rfl) (by decide) ?_
      exact J33_7 1 _ _ _ (by omega) (by omega) (by exact Hd.mk (by  omega)) (fun zq uq hq => (u_r_X12_operand ⟨z1, gz1.out, ⟨z2, ghw4, (Or.inr ⟨c5, ⟨z8, gz8.out, (Or.inr ⟨c9, hq⟩)⟩⟩)⟩⟩)) hP hS (lv_sub hl [0, 1] rfl)
theorem dkX12_goesOn_0 : dkq cX12_goesOn [(0, .aload_n 0, 1), (1, .getfield 173, 3), (4, .iconst 1, 1), (5, .isub, 1), (6, .istore_n 1, 1), (7, .aload_n 0, 1), (8, .getfield 158, 3), (11, .iload_n 1, 1), (12, .iaload, 1), (13, .istore_n 2, 1), (14, .iload_n 2, 1), (15, .invokestatic 365, 3), (18, .istore_n 3, 1), (19, .aload_n 0, 1), (20, .getfield 161, 3), (23, .iload_n 1, 1)] = true := by decide +kernel
theorem dkX12_goesOn_1 : dkq cX12_goesOn [(24, .iaload, 1), (25, .iconst 2, 1), (26, .if_icmp .ge 149, 3), (29, .aload_n 0, 1), (30, .bipush 43, 2), (32, .invokevirtual 290, 3), (35, .ifCond .ne 39, 3), (38, .aload_n 0, 1), (39, .bipush 45, 2), (41, .invokevirtual 290, 3), (44, .ifCond .ne 30, 3), (47, .aload_n 0, 1), (48, .bipush 42, 2), (50, .invokevirtual 290, 3), (53, .ifCond .ne 21, 3), (56, .aload_n 0, 1)] = true := by decide +kernel
theorem dkX12_goesOn_2 : dkq cX12_goesOn [(57, .bipush 47, 2), (59, .invokevirtual 290, 3), (62, .ifCond .ne 12, 3), (65, .aload_n 0, 1), (66, .bipush 37, 2), (68, .invokevirtual 290, 3), (71, .ifCond .eq 104, 3), (74, .aload_n 0, 1), (75, .aload_n 0, 1), (76, .bipush 43, 2), (78, .invokevirtual 290, 3), (81, .ifCond .ne 12, 3), (84, .aload_n 0, 1), (85, .bipush 45, 2), (87, .invokevirtual 290, 3), (90, .ifCond .eq 7, 3)] = true := by decide +kernel
theorem dkX12_goesOn_3 : dkq cX12_goesOn [(93, .iconst 5, 1), (94, .goto 5, 3), (97, .bipush 6, 2), (99, .invokevirtual 378, 3), (102, .aload_n 0, 1), (103, .aload_n 0, 1), (104, .bipush 43, 2), (106, .invokevirtual 290, 3), (109, .ifCond .eq 8, 3), (112, .bipush 10, 2), (114, .goto 47, 3), (117, .aload_n 0, 1), (118, .bipush 45, 2), (120, .invokevirtual 290, 3), (123, .ifCond .eq 8, 3), (126, .bipush 11, 2)] = true := by decide +kernel
theorem dkX12_goesOn_4 : dkq cX12_goesOn [(128, .goto 33, 3), (131, .aload_n 0, 1), (132, .bipush 42, 2), (134, .invokevirtual 290, 3), (137, .ifCond .eq 8, 3), (140, .bipush 12, 2), (142, .goto 19, 3), (145, .aload_n 0, 1), (146, .bipush 47, 2), (148, .invokevirtual 290, 3), (151, .ifCond .eq 8, 3), (154, .bipush 13, 2), (156, .goto 5, 3), (159, .bipush 14, 2), (161, .invokevirtual 372, 3), (164, .aload_n 0, 1)] = true := by decide +kernel
theorem dkX12_goesOn_5 : dkq cX12_goesOn [(165, .invokevirtual 293, 3), (168, .aload_n 0, 1), (169, .iconst 0, 1), (170, .putfield 185, 3), (173, .iconst 1, 1), (174, .ireturn, 1), (175, .iload_n 3, 1), (176, .ifCond .eq 96, 3), (179, .aload_n 0, 1), (180, .getfield 161, 3), (183, .iload_n 1, 1), (184, .iaload, 1), (185, .ifCond .ne 87, 3), (188, .aload_n 0, 1), (189, .bipush 60, 2), (191, .invokevirtual 290, 3)] = true := by decide +kernel
theorem dkX12_goesOn_6 : dkq cX12_goesOn [(194, .ifCond .ne 21, 3), (197, .aload_n 0, 1), (198, .bipush 62, 2), (200, .invokevirtual 290, 3), (203, .ifCond .ne 12, 3), (206, .aload_n 0, 1), (207, .bipush 61, 2), (209, .invokevirtual 290, 3), (212, .ifCond .eq 60, 3), (215, .aload_n 0, 1), (216, .iconst 5, 1), (217, .invokevirtual 378, 3), (220, .aload_n 0, 1), (221, .aload_n 0, 1), (222, .bipush 60, 2), (224, .invokevirtual 290, 3)] = true := by decide +kernel
theorem dkX12_goesOn_7 : dkq cX12_goesOn [(227, .ifCond .eq 8, 3), (230, .bipush 17, 2), (232, .goto 19, 3), (235, .aload_n 0, 1), (236, .bipush 62, 2), (238, .invokevirtual 290, 3), (241, .ifCond .eq 8, 3), (244, .bipush 18, 2), (246, .goto 5, 3), (249, .bipush 19, 2), (251, .invokevirtual 372, 3), (254, .aload_n 0, 1), (255, .getfield 161, 3), (258, .iload_n 1, 1), (259, .iconst 1, 1), (260, .iastore, 1)] = true := by decide +kernel
theorem dkX12_goesOn_8 : dkq cX12_goesOn [(261, .aload_n 0, 1), (262, .invokevirtual 293, 3), (265, .aload_n 0, 1), (266, .iconst 0, 1), (267, .putfield 185, 3), (270, .iconst 1, 1), (271, .ireturn, 1), (272, .iload_n 3, 1), (273, .ifCond .eq 114, 3), (276, .aload_n 0, 1), (277, .ldc2_w 330, 3), (280, .invokevirtual 368, 3), (283, .ifCond .ne 13, 3), (286, .aload_n 0, 1), (287, .ldc2_w 328, 3), (290, .invokevirtual 368, 3)] = true := by decide +kernel
theorem dkX12_goesOn_9 : dkq cX12_goesOn [(293, .ifCond .eq 94, 3), (296, .aload_n 0, 1), (297, .getfield 161, 3), (300, .iload_n 1, 1), (301, .iaload, 1), (302, .ifCond .ne 12, 3), (305, .aload_n 0, 1), (306, .iconst 1, 1), (307, .aload_n 0, 1), (308, .getfield 23, 3), (311, .invokevirtual 286, 3), (314, .aload_n 0, 1), (315, .getfield 36, 3), (318, .ifCond .le 5, 3), (321, .iconst 0, 1), (322, .ireturn, 1)] = true := by decide +kernel
theorem dkX12_goesOn_10 : dkq cX12_goesOn [(323, .aload_n 0, 1), (324, .ldc2_w 330, 3), (327, .invokevirtual 368, 3), (330, .istore 4, 2), (332, .aload_n 0, 1), (333, .iload 4, 2), (335, .ifCond .eq 7, 3), (338, .iconst 2, 1), (339, .goto 4, 3), (342, .iconst 1, 1), (343, .invokevirtual 378, 3), (346, .aload_n 0, 1), (347, .iload 4, 2), (349, .ifCond .eq 8, 3), (352, .bipush 20, 2), (354, .goto 5, 3)] = true := by decide +kernel
theorem dkX12_goesOn_11 : dkq cX12_goesOn [(357, .bipush 21, 2), (359, .invokevirtual 372, 3), (362, .aload_n 0, 1), (363, .getfield 161, 3), (366, .iload_n 1, 1), (367, .iconst 0, 1), (368, .iastore, 1), (369, .aload_n 0, 1), (370, .getfield 164, 3), (373, .iload_n 1, 1), (374, .iconst 1, 1), (375, .bastore, 1), (376, .aload_n 0, 1), (377, .invokevirtual 293, 3), (380, .aload_n 0, 1), (381, .iconst 0, 1)] = true := by decide +kernel
theorem dkX12_goesOn_12 : dkq cX12_goesOn [(382, .putfield 185, 3), (385, .iconst 1, 1), (386, .ireturn, 1), (387, .iload_n 3, 1), (388, .ifCond .eq 21, 3), (391, .aload_n 0, 1), (392, .getfield 161, 3), (395, .iload_n 1, 1), (396, .iaload, 1), (397, .ifCond .ne 12, 3), (400, .aload_n 0, 1), (401, .iconst 1, 1), (402, .aload_n 0, 1), (403, .getfield 23, 3), (406, .invokevirtual 286, 3), (409, .iload_n 2, 1)] = true := by decide +kernel
theorem dkX12_goesOn_13 : dkq cX12_goesOn [(410, .iconst 2, 1), (411, .if_icmp .ge 17, 3), (414, .aload_n 0, 1), (415, .getfield 36, 3), (418, .ifCond .ne 8, 3), (421, .aload_n 0, 1), (422, .iconst 1, 1), (423, .invokevirtual 378, 3), (426, .iconst 0, 1), (427, .ireturn, 1), (428, .iload_n 2, 1), (429, .iconst 3, 1), (430, .if_icmp .ne 53, 3), (433, .aload_n 0, 1), (434, .bipush 44, 2), (436, .invokevirtual 290, 3)] = true := by decide +kernel
theorem dkX12_goesOn_14 : dkq cX12_goesOn [(439, .ifCond .ne 12, 3), (442, .aload_n 0, 1), (443, .iconst 1, 1), (444, .aload_n 0, 1), (445, .getfield 23, 3), (448, .invokevirtual 286, 3), (451, .aload_n 0, 1), (452, .getfield 36, 3), (455, .ifCond .le 5, 3), (458, .iconst 0, 1), (459, .ireturn, 1), (460, .aload_n 0, 1), (461, .iconst 1, 1), (462, .invokevirtual 378, 3), (465, .aload_n 0, 1), (466, .getfield 158, 3)] = true := by decide +kernel
theorem dkX12_goesOn_15 : dkq cX12_goesOn [(469, .iload_n 1, 1), (470, .iconst 4, 1), (471, .iastore, 1), (472, .aload_n 0, 1), (473, .invokevirtual 293, 3), (476, .aload_n 0, 1), (477, .iconst 0, 1), (478, .putfield 185, 3), (481, .iconst 1, 1), (482, .ireturn, 1), (483, .aload_n 0, 1), (484, .iload_n 2, 1), (485, .iconst 5, 1), (486, .if_icmp .ne 8, 3), (489, .bipush 93, 2), (491, .goto 5, 3)] = true := by decide +kernel
theorem dkX12_goesOn_16 : dkq cX12_goesOn [(494, .bipush 41, 2), (496, .invokevirtual 290, 3), (499, .ifCond .ne 12, 3), (502, .aload_n 0, 1), (503, .iconst 1, 1), (504, .aload_n 0, 1), (505, .getfield 23, 3), (508, .invokevirtual 286, 3), (511, .aload_n 0, 1), (512, .getfield 36, 3), (515, .ifCond .le 5, 3), (518, .iconst 0, 1), (519, .ireturn, 1), (520, .aload_n 0, 1), (521, .iconst 1, 1), (522, .invokevirtual 378, 3)] = true := by decide +kernel
theorem dkX12_goesOn_17 : dkq cX12_goesOn [(525, .aload_n 0, 1), (526, .dup, 1), (527, .getfield 173, 3), (530, .iconst 1, 1), (531, .isub, 1), (532, .putfield 173, 3), (535, .aload_n 0, 1), (536, .dup, 1), (537, .getfield 176, 3), (540, .iconst 1, 1), (541, .isub, 1), (542, .putfield 176, 3), (545, .iload_n 2, 1), (546, .iconst 4, 1), (547, .if_icmp .ne 14, 3), (550, .aload_n 0, 1)] = true := by decide +kernel
theorem dkX12_goesOn_18 : dkq cX12_goesOn [(551, .aload_n 0, 1), (552, .getfield 167, 3), (555, .iload_n 1, 1), (556, .iaload, 1), (557, .iconst 0, 1), (558, .invokevirtual 359, 3), (561, .iload_n 2, 1), (562, .iconst 5, 1), (563, .if_icmp .ne 15, 3), (566, .aload_n 0, 1), (567, .getfield 161, 3), (570, .aload_n 0, 1), (571, .getfield 173, 3), (574, .iconst 1, 1), (575, .isub, 1), (576, .iconst 2, 1)] = true := by decide +kernel
theorem dkX12_goesOn_19 : dkq cX12_goesOn [(577, .iastore, 1), (578, .aload_n 0, 1), (579, .invokevirtual 293, 3), (582, .iconst 1, 1), (583, .ireturn, 1)] = true := by decide +kernel
