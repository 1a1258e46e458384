abbrev tr_d_X12_ahead_14 (K10 : Int → Int → St → Prop) (z73 : Int) (z74 : Int) (u : St) (A136 : St) : Prop := ((IM A136) ∧ (K10 (z73 + 1) (z74 + 1) A136))
def d_X12_ahead_14 (K10 : Int → Int → St → Prop) (z73 : Int) (z74 : Int) (u : St) (A136 : St) : Prop := tr_d_X12_ahead_14 K10 z73 z74 u A136
theorem u_d_X12_ahead_14 {K10 : Int → Int → St → Prop} {z73 : Int} {z74 : Int} {u : St} {A136 : St} (h : tr_d_X12_ahead_14 K10 z73 z74 u A136) : d_X12_ahead_14 K10 z73 z74 u A136 := h
abbrev tr_d_X12_ahead_13 (K10 : Int → Int → St → Prop) (z24 : Int) (z69 : Int) (z73 : Int) (z74 : Int) (A76 : St) (u : St) (A125 : St) : Prop := ((IM A125) ∧ (((z69 ≤ z73) ∧ (d_X12_ahead_14 K10 z73 z74 u A125)) ∨ ((¬ z69 ≤ z73) ∧ (((z24 = 0) ∧ (d_X12_ahead_14 K10 z73 z74 u A125)) ∨ ((¬ z24 = 0) ∧ (∃ z131 : Int, z131 = oWrap (10 * (A76 0 6)) ∧ (∃ z132 : Int, z132 = A125 1 (z74).toNat ∧ (∃ z133 : Int, z133 = oWrap (z131 + z132) ∧ (∃ z134 : Int, z134 = oWrap (z133 - 48) ∧ (d_X12_ahead_14 K10 z73 z74 u (stA A125 0 6 z134)))))))))))
def d_X12_ahead_13 (K10 : Int → Int → St → Prop) (z24 : Int) (z69 : Int) (z73 : Int) (z74 : Int) (A76 : St) (u : St) (A125 : St) : Prop := tr_d_X12_ahead_13 K10 z24 z69 z73 z74 A76 u A125
theorem u_d_X12_ahead_13 {K10 : Int → Int → St → Prop} {z24 : Int} {z69 : Int} {z73 : Int} {z74 : Int} {A76 : St} {u : St} {A125 : St} (h : tr_d_X12_ahead_13 K10 z24 z69 z73 z74 A76 u A125) : d_X12_ahead_13 K10 z24 z69 z73 z74 A76 u A125 := h
abbrev tr_d_X12_ahead_12 (K10 : Int → Int → St → Prop) (z20 : Int) (z24 : Int) (z69 : Int) (z73 : Int) (z74 : Int) (A76 : St) (u : St) (A115 : St) : Prop := ((IM A115) ∧ (((z69 ≤ z73) ∧ (d_X12_ahead_13 K10 z24 z69 z73 z74 A76 u A115)) ∨ ((¬ z69 ≤ z73) ∧ (((z20 = 0) ∧ (d_X12_ahead_13 K10 z24 z69 z73 z74 A76 u A115)) ∨ ((¬ z20 = 0) ∧ (∃ z121 : Int, z121 = pShl (A76 0 7) 8 ∧ (∃ z122 : Int, z122 = A115 1 (z74).toNat ∧ (∃ z123 : Int, z123 = pOr z121 z122 ∧ (∃ A138 : St, A138 = (stA A115 0 7 z123) ∧ (d_X12_ahead_13 K10 z24 z69 z73 z74 A76 u A138))))))))))
def d_X12_ahead_12 (K10 : Int → Int → St → Prop) (z20 : Int) (z24 : Int) (z69 : Int) (z73 : Int) (z74 : Int) (A76 : St) (u : St) (A115 : St) : Prop := tr_d_X12_ahead_12 K10 z20 z24 z69 z73 z74 A76 u A115
theorem u_d_X12_ahead_12 {K10 : Int → Int → St → Prop} {z20 : Int} {z24 : Int} {z69 : Int} {z73 : Int} {z74 : Int} {A76 : St} {u : St} {A115 : St} (h : tr_d_X12_ahead_12 K10 z20 z24 z69 z73 z74 A76 u A115) : d_X12_ahead_12 K10 z20 z24 z69 z73 z74 A76 u A115 := h
abbrev tr_d_X12_ahead_11 (K10 : Int → Int → St → Prop) (z20 : Int) (z24 : Int) (z69 : Int) (z73 : Int) (z74 : Int) (A76 : St) (u : St) : Prop := (((¬ z73 = z69) ∧ (d_X12_ahead_12 K10 z20 z24 z69 z73 z74 A76 u A76)) ∨ ((z73 = z69) ∧ (∃ A111 : St, q_X12_blame 1 z74 A76 A111 ∧ (d_X12_ahead_12 K10 z20 z24 z69 z73 z74 A76 u A111))))
def d_X12_ahead_11 (K10 : Int → Int → St → Prop) (z20 : Int) (z24 : Int) (z69 : Int) (z73 : Int) (z74 : Int) (A76 : St) (u : St) : Prop := tr_d_X12_ahead_11 K10 z20 z24 z69 z73 z74 A76 u
theorem u_d_X12_ahead_11 {K10 : Int → Int → St → Prop} {z20 : Int} {z24 : Int} {z69 : Int} {z73 : Int} {z74 : Int} {A76 : St} {u : St} (h : tr_d_X12_ahead_11 K10 z20 z24 z69 z73 z74 A76 u) : d_X12_ahead_11 K10 z20 z24 z69 z73 z74 A76 u := h
abbrev tr_d_X12_ahead_10 (z20 : Int) (z24 : Int) (z69 : Int) (A : St) (u : St) (K10 : Int → Int → St → Prop) (z73 : Int) (z74 : Int) (A76 : St) : Prop := ((IM A76) ∧ ((0 ≤ z73 ∧ z73 ≤ 1600) ∧ ((0 ≤ z74 ∧ z74 ≤ 1600) ∧ ((((A 0 2) ≤ z74) ∧ (∃ A92 : St, A92 = (stA A76 0 5 z74) ∧ (u = A92))) ∨ ((¬ (A 0 2) ≤ z74) ∧ (((z20 = 0) ∧ (∃ z95 : Int, z95 = A76 1 (z74).toNat ∧ (∃ z96 : Int, q_X12_isDigit z95 A76 z96 ∧ (((z96 = 0) ∧ (∃ A100 : St, A100 = (stA A76 0 5 z74) ∧ (u = A100))) ∨ ((¬ z96 = 0) ∧ (d_X12_ahead_11 K10 z20 z24 z69 z73 z74 A76 u)))))) ∨ ((¬ z20 = 0) ∧ (∃ z101 : Int, z101 = A76 1 (z74).toNat ∧ (∃ z102 : Int, q_X12_isLetter z101 A76 z102 ∧ (((z102 = 0) ∧ (∃ A106 : St, A106 = (stA A76 0 5 z74) ∧ (u = A106))) ∨ ((¬ z102 = 0) ∧ (d_X12_ahead_11 K10 z20 z24 z69 z73 z74 A76 u))))))))))))
def d_X12_ahead_10 (z20 : Int) (z24 : Int) (z69 : Int) (A : St) (u : St) : Nat → Int → Int → St → Prop
  | 0, _, _, _ => False
  | nn9 + 1, z73, z74, A76 => tr_d_X12_ahead_10 z20 z24 z69 A u (fun z73 z74 A76 => d_X12_ahead_10 z20 z24 z69 A u nn9 z73 z74 A76) z73 z74 A76
theorem u_d_X12_ahead_10 {z20 : Int} {z24 : Int} {z69 : Int} {A : St} {u : St} {nn9 : Nat} {z73 : Int} {z74 : Int} {A76 : St} (h : tr_d_X12_ahead_10 z20 z24 z69 A u (fun z73 z74 A76 => d_X12_ahead_10 z20 z24 z69 A u nn9 z73 z74 A76) z73 z74 A76) : d_X12_ahead_10 z20 z24 z69 A u (nn9 + 1) z73 z74 A76 := h
abbrev tr_d_X12_ahead_9 (z1 : Int) (z20 : Int) (z24 : Int) (A : St) (A66 : St) (u : St) (z69 : Int) : Prop := ((4 ≤ z69 ∧ z69 ≤ 6) ∧ (∃ nn9 : Nat, d_X12_ahead_10 z20 z24 z69 A u nn9 0 z1 A66))
def d_X12_ahead_9 (z1 : Int) (z20 : Int) (z24 : Int) (A : St) (A66 : St) (u : St) (z69 : Int) : Prop := tr_d_X12_ahead_9 z1 z20 z24 A A66 u z69
theorem u_d_X12_ahead_9 {z1 : Int} {z20 : Int} {z24 : Int} {A : St} {A66 : St} {u : St} {z69 : Int} (h : tr_d_X12_ahead_9 z1 z20 z24 A A66 u z69) : d_X12_ahead_9 z1 z20 z24 A A66 u z69 := h
abbrev tr_d_X12_ahead_8 (z1 : Int) (z20 : Int) (z24 : Int) (A : St) (A52 : St) (u : St) (z62 : Int) : Prop := ((1 ≤ z62 ∧ z62 ≤ 2) ∧ (∃ A66 : St, A66 = (stA A52 0 3 z62) ∧ (((z20 = 0) ∧ (d_X12_ahead_9 z1 z20 z24 A A66 u 4)) ∨ ((¬ z20 = 0) ∧ (d_X12_ahead_9 z1 z20 z24 A A66 u 6)))))
def d_X12_ahead_8 (z1 : Int) (z20 : Int) (z24 : Int) (A : St) (A52 : St) (u : St) (z62 : Int) : Prop := tr_d_X12_ahead_8 z1 z20 z24 A A52 u z62
theorem u_d_X12_ahead_8 {z1 : Int} {z20 : Int} {z24 : Int} {A : St} {A52 : St} {u : St} {z62 : Int} (h : tr_d_X12_ahead_8 z1 z20 z24 A A52 u z62) : d_X12_ahead_8 z1 z20 z24 A A52 u z62 := h
abbrev tr_d_X12_ahead_7 (z1 : Int) (z20 : Int) (z24 : Int) (A : St) (A52 : St) (u : St) : Prop := (((z20 = 0) ∧ (d_X12_ahead_8 z1 z20 z24 A A52 u 2)) ∨ ((¬ z20 = 0) ∧ (d_X12_ahead_8 z1 z20 z24 A A52 u 1)))
def d_X12_ahead_7 (z1 : Int) (z20 : Int) (z24 : Int) (A : St) (A52 : St) (u : St) : Prop := tr_d_X12_ahead_7 z1 z20 z24 A A52 u
theorem u_d_X12_ahead_7 {z1 : Int} {z20 : Int} {z24 : Int} {A : St} {A52 : St} {u : St} (h : tr_d_X12_ahead_7 z1 z20 z24 A A52 u) : d_X12_ahead_7 z1 z20 z24 A A52 u := h
abbrev tr_d_X12_ahead_6 (z1 : Int) (z20 : Int) (z24 : Int) (A : St) (u : St) (A49 : St) : Prop := ((IM A49) ∧ (∃ A52 : St, A52 = (stA (stA (stA (stA A49 0 6 0) 0 7 0) 0 3 3) 0 5 (z1 + 1)) ∧ (((¬ z20 = 0) ∧ (d_X12_ahead_7 z1 z20 z24 A A52 u)) ∨ ((z20 = 0) ∧ (((¬ z24 = 0) ∧ (d_X12_ahead_7 z1 z20 z24 A A52 u)) ∨ ((z24 = 0) ∧ (∃ z56 : Int, z56 = A52 1 (z1).toNat ∧ (∃ A57 : St, A57 = (stA A52 0 6 z56) ∧ (u = A57)))))))))
def d_X12_ahead_6 (z1 : Int) (z20 : Int) (z24 : Int) (A : St) (u : St) (A49 : St) : Prop := tr_d_X12_ahead_6 z1 z20 z24 A u A49
theorem u_d_X12_ahead_6 {z1 : Int} {z20 : Int} {z24 : Int} {A : St} {u : St} {A49 : St} (h : tr_d_X12_ahead_6 z1 z20 z24 A u A49) : d_X12_ahead_6 z1 z20 z24 A u A49 := h
abbrev tr_d_X12_ahead_5 (z1 : Int) (z20 : Int) (z24 : Int) (A : St) (A19 : St) (u : St) : Prop := (∃ A45 : St, q_X12_blame 1 z1 A19 A45 ∧ (d_X12_ahead_6 z1 z20 z24 A u A45))
def d_X12_ahead_5 (z1 : Int) (z20 : Int) (z24 : Int) (A : St) (A19 : St) (u : St) : Prop := tr_d_X12_ahead_5 z1 z20 z24 A A19 u
theorem u_d_X12_ahead_5 {z1 : Int} {z20 : Int} {z24 : Int} {A : St} {A19 : St} {u : St} (h : tr_d_X12_ahead_5 z1 z20 z24 A A19 u) : d_X12_ahead_5 z1 z20 z24 A A19 u := h
abbrev tr_d_X12_ahead_4 (z1 : Int) (z20 : Int) (z24 : Int) (A : St) (A19 : St) (u : St) : Prop := (((z1 ≤ 0) ∧ (d_X12_ahead_6 z1 z20 z24 A u A19)) ∨ ((¬ z1 ≤ 0) ∧ (∃ z33 : Int, z33 = A19 1 (z1 - 1).toNat ∧ (∃ z34 : Int, q_X12_isLetter z33 A19 z34 ∧ (((¬ z34 = 0) ∧ (d_X12_ahead_5 z1 z20 z24 A A19 u)) ∨ ((z34 = 0) ∧ (∃ z39 : Int, z39 = A19 1 (z1 - 1).toNat ∧ (∃ z40 : Int, q_X12_isDigit z39 A19 z40 ∧ (((z40 = 0) ∧ (d_X12_ahead_6 z1 z20 z24 A u A19)) ∨ ((¬ z40 = 0) ∧ (d_X12_ahead_5 z1 z20 z24 A A19 u)))))))))))
def d_X12_ahead_4 (z1 : Int) (z20 : Int) (z24 : Int) (A : St) (A19 : St) (u : St) : Prop := tr_d_X12_ahead_4 z1 z20 z24 A A19 u
theorem u_d_X12_ahead_4 {z1 : Int} {z20 : Int} {z24 : Int} {A : St} {A19 : St} {u : St} (h : tr_d_X12_ahead_4 z1 z20 z24 A A19 u) : d_X12_ahead_4 z1 z20 z24 A A19 u := h
abbrev tr_d_X12_ahead_3 (z1 : Int) (A : St) (u : St) : Prop := (((z1 < (A 0 2)) ∧ (∃ z18 : Int, z18 = (stA (stA (stA A 0 4 z1) 0 5 z1) 0 3 0) 1 (z1).toNat ∧ (∃ A19 : St, A19 = (stA (stA (stA A 0 4 z1) 0 5 z1) 0 3 0) ∧ (∃ z20 : Int, q_X12_isLetter z18 A19 z20 ∧ (∃ z23 : Int, z23 = A19 1 (z1).toNat ∧ (∃ z24 : Int, q_X12_isDigit z23 A19 z24 ∧ (((¬ z20 = 0) ∧ (d_X12_ahead_4 z1 z20 z24 A A19 u)) ∨ ((z20 = 0) ∧ (((z24 = 0) ∧ (d_X12_ahead_6 z1 z20 z24 A u A19)) ∨ ((¬ z24 = 0) ∧ (d_X12_ahead_4 z1 z20 z24 A A19 u))))))))))) ∨ ((¬ z1 < (A 0 2)) ∧ (∃ A139 : St, A139 = (stA (stA (stA A 0 4 z1) 0 5 z1) 0 3 0) ∧ (u = A139))))
def d_X12_ahead_3 (z1 : Int) (A : St) (u : St) : Prop := tr_d_X12_ahead_3 z1 A u
theorem u_d_X12_ahead_3 {z1 : Int} {A : St} {u : St} (h : tr_d_X12_ahead_3 z1 A u) : d_X12_ahead_3 z1 A u := h
abbrev tr_d_X12_ahead_2 (K1 : Int → Prop) (z1 : Int) (u : St) : Prop := (K1 (z1 + 1))
def d_X12_ahead_2 (K1 : Int → Prop) (z1 : Int) (u : St) : Prop := tr_d_X12_ahead_2 K1 z1 u
theorem u_d_X12_ahead_2 {K1 : Int → Prop} {z1 : Int} {u : St} (h : tr_d_X12_ahead_2 K1 z1 u) : d_X12_ahead_2 K1 z1 u := h
abbrev tr_d_X12_ahead_1 (A : St) (u : St) (K1 : Int → Prop) (z1 : Int) : Prop := ((0 ≤ z1 ∧ z1 ≤ 1600) ∧ ((((A 0 2) ≤ z1) ∧ (d_X12_ahead_3 z1 A u)) ∨ ((¬ (A 0 2) ≤ z1) ∧ (∃ z10 : Int, z10 = A 1 (z1).toNat ∧ (((z10 = 32) ∧ (d_X12_ahead_2 K1 z1 u)) ∨ ((¬ z10 = 32) ∧ (∃ z13 : Int, z13 = A 1 (z1).toNat ∧ (((¬ z13 = 10) ∧ (d_X12_ahead_3 z1 A u)) ∨ ((z13 = 10) ∧ (d_X12_ahead_2 K1 z1 u))))))))))
def d_X12_ahead_1 (A : St) (u : St) : Nat → Int → Prop
  | 0, _ => False
  | nn9 + 1, z1 => tr_d_X12_ahead_1 A u (fun z1 => d_X12_ahead_1 A u nn9 z1) z1
theorem u_d_X12_ahead_1 {A : St} {u : St} {nn9 : Nat} {z1 : Int} (h : tr_d_X12_ahead_1 A u (fun z1 => d_X12_ahead_1 A u nn9 z1) z1) : d_X12_ahead_1 A u (nn9 + 1) z1 := h
abbrev tr_r_X12_ahead (A : St) (u : St) : Prop := (∃ nn9 : Nat, d_X12_ahead_1 A u nn9 (A 0 5))
def r_X12_ahead (A : St) (u : St) : Prop := tr_r_X12_ahead A u
theorem u_r_X12_ahead {A : St} {u : St} (h : tr_r_X12_ahead A u) : r_X12_ahead A u := h
def q_X12_ahead (A : St) (u : St) : Prop := r_X12_ahead A u ∧ IM u ∧ fr [] [3, 4, 5, 6, 7, 8, 9] A u ∧ (A 0 5 ≤ u 0 4 ∧ u 0 4 ≤ u 0 5 ∧ LX u ∧ (u 0 8 = 0 → A 0 8 = 0) ∧ (u 0 8 = 0 → u 0 3 = 1 → 1 ≤ u 0 4 → (A 1 (u 0 4 - 1).toNat < 97 ∨ 122 < A 1 (u 0 4 - 1).toNat)))
def ws_mb_X12_ahead : List Cond := .code yX12_ahead cX12_ahead 6 none :: WX
set_option maxHeartbeats 4000000 in
set_option maxRecDepth 100000 in
theorem mb_X12_ahead (l : Launch) (dC : Nat → ClassId) (dI : Nat → Nat → Nat) (cB cI cJ cZ cQ : ClassId) (q : Nat → Nat) (A : St) (hI : IM A) : XMv l yX12_ahead ws_mb_X12_ahead ({ frames := 1, cells := 0, slots := 0, locals := 22 } : Room) (dC, dI) (tyA cB cI cJ cZ cQ) (WM cI cJ cZ q) A [.ref (q 0)] (fun u => r_X12_ahead A u ∧ IM u ∧ fr [] [3, 4, 5, 6, 7, 8, 9] A u ∧ (A 0 5 ≤ u 0 4 ∧ u 0 4 ≤ u 0 5 ∧ LX u ∧ (u 0 8 = 0 → A 0 8 = 0) ∧ (u 0 8 = 0 → u 0 3 = 1 → 1 ≤ u 0 4 → (A 1 (u 0 4 - 1).toNat < 97 ∨ 122 < A 1 (u 0 4 - 1).toNat)))) := by
  refine x_metv (cc := cX12_ahead) (maxL := 6) WM_adr (by decide +kernel) rfl (Nat.le_of_ble_eq_true rfl) (fun p e s m below meth c Q AS ls hx hb hml hown hts hK hDD hA0 hP hS hl RET => ?_)
  have hown : s.vm.findClass RX12 = some m.cls := hown
  have hl : lv_has ls 6 [(0, .ref (q 0))] := hl
  have hiX12 : ∀ w ∈ u_ws RX12 TX12 85, w ∈ ws_mb_X12_ahead := fun w h => List.mem_cons_of_mem _ (wx_lay w h)
  obtain ⟨H, hHe⟩ : ∃ H : Heap, H = s.heap := ⟨_, rfl⟩
  rw [← hHe] at hP
  have hS : va_S AS s.heap H [] := by rw [hHe]; exact hS
  suffices hgo : ∀ locs : List Loc, va_S AS s.heap H locs → W p l e (headSpec ws_mb_X12_ahead ({ frames := 1, cells := 0, slots := 0, locals := 22 } : Room)).room s m [.ref (q 0)].toArray below meth c H locs 0 0 Q (F0 m 0 ls []) by
    have := hgo [] hS
    rw [hHe] at this
    exact this
  clear hS hHe
  intro locs hS
  refine lv_aload_n hx hb (dk_at dkX12_ahead_0 0 rfl) rfl (lv_at hl 0 rfl) ?_
  refine va_get (D := (dC, dI)) (ci := 12) (v := .int (iI (A 0 5))) (C := RX12) (T := TX12) (N := 85) hx hb hts hiX12 hown hK hP 0 wm0 rfl 5 (by decide) (hts _ (List.mem_cons_of_mem _ wlq_0_21)) (fun _ h9 => h9) rfl (dk_at dkX12_ahead_0 1 rfl) ?_
  have r_A_0_5 : (0 : Int) ≤ (A 0 5) ∧ (A 0 5) ≤ 1600 := hI 0 5
  refine lv_istore_n (lv' := [(1, .int (iI (A 0 5))), (0, .ref (q 0))]) hx hb (dk_at dkX12_ahead_0 2 rfl) rfl hl (by decide) rfl (fun ls hl => ?_)
  have L5_3 : ∀ (n5 : Nat) (z1 : Int) (H : Heap) (locs : List Loc) (ls : Array Slot), ((A 0 5) ≤ z1) → (0 ≤ z1 ∧ z1 ≤ 1600) → (∀ (u : St), (∃ mm1 : Nat, (d_X12_ahead_1 A u mm1 z1)) → r_X12_ahead A u) → (((A 0 2) - z1 + 1).toNat = n5) → va_P (dC, dI) vwCl (WM cI cJ cZ q A) H → va_S AS s.heap H locs → lv_has ls 6 [(1, .int (iI z1)), (0, .ref (q 0))] → W p l e (headSpec ws_mb_X12_ahead ({ frames := 1, cells := 0, slots := 0, locals := 22 } : Room)).room s m [.ref (q 0)].toArray below meth c H locs 0 0 Q (F0 m 5 ls []) := by
    intro n5
    induction n5 using Nat.strongRecOn with
    | ind n5 ih4 =>
      intro z1 H locs ls f6 f7 hk1 hn5 hP hS hl
      refine lv_iload_n hx hb (dk_at dkX12_ahead_0 3 rfl) rfl (lv_at hl 0 rfl) ?_
      refine lv_aload_n hx hb (dk_at dkX12_ahead_0 4 rfl) rfl (lv_at hl 1 rfl) ?_
      refine va_get (D := (dC, dI)) (ci := 12) (v := .int (iI (A 0 2))) (C := RX12) (T := TX12) (N := 85) hx hb hts hiX12 hown hK hP 0 wm0 rfl 2 (by decide) (hts _ (List.mem_cons_of_mem _ wlq_0_22)) (fun _ h9 => h9) rfl (dk_at dkX12_ahead_0 5 rfl) ?_
      have r_A_0_2 : (0 : Int) ≤ (A 0 2) ∧ (A 0 2) ≤ 1600 := hI 0 2
      have J41_9 : ∀ (H : Heap) (locs : List Loc) (ls : Array Slot), (∀ (u : St), (∃ mm1 : Nat, (d_X12_ahead_3 z1 A u)) → r_X12_ahead A u) → va_P (dC, dI) vwCl (WM cI cJ cZ q A) H → va_S AS s.heap H locs → lv_has ls 6 [(1, .int (iI z1)), (0, .ref (q 0))] → W p l e (headSpec ws_mb_X12_ahead ({ frames := 1, cells := 0, slots := 0, locals := 22 } : Room)).room s m [.ref (q 0)].toArray below meth c H locs 0 0 Q (F0 m 41 ls []) := by
        intro H locs ls hk3 hP hS hl
        refine lv_aload_n hx hb (dk_at dkX12_ahead_1 5 rfl) rfl (lv_at hl 1 rfl) ?_
        refine lv_iload_n hx hb (dk_at dkX12_ahead_1 6 rfl) rfl (lv_at hl 0 rfl) ?_
        refine x_put (D := (dC, dI)) (ci := 12) (v := .int (iI z1)) (ty := .int) (C := RX12) (T := TX12) (N := 85) hx hb hts hiX12 tyX12 tyX12_ok nmX12 hown hK hP hDD hS 0 wm0 rfl 4 (by decide) (hts _ (List.mem_cons_of_mem _ wlq_0_23)) (fun _ h9 => h9) rfl (by decide +kernel) rfl rfl (Nat.le_of_ble_eq_true rfl) (dk_at dkX12_ahead_1 7 rfl) (wf4 (v := z1)) (fun H locs hP hS => ?_)
        have hI := hI.st (j := 0) (i := 4) (v := z1) (show (0 : Int) ≤ z1 ∧ z1 ≤ 1600 from (by omega))
        refine lv_aload_n hx hb (dk_at dkX12_ahead_1 8 rfl) rfl (lv_at hl 1 rfl) ?_
        refine lv_iload_n hx hb (dk_at dkX12_ahead_1 9 rfl) rfl (lv_at hl 0 rfl) ?_
        refine x_put (D := (dC, dI)) (ci := 12) (v := .int (iI z1)) (ty := .int) (C := RX12) (T := TX12) (N := 85) hx hb hts hiX12 tyX12 tyX12_ok nmX12 hown hK hP hDD hS 0 wm0 rfl 5 (by decide) (hts _ (List.mem_cons_of_mem _ wlq_0_21)) (fun _ h9 => h9) rfl (by decide +kernel) rfl rfl (Nat.le_of_ble_eq_true rfl) (dk_at dkX12_ahead_1 10 rfl) (wf5 (v := z1)) (fun H locs hP hS => ?_)
        have hI := hI.st (j := 0) (i := 5) (v := z1) (show (0 : Int) ≤ z1 ∧ z1 ≤ 1600 from (by omega))
        refine lv_aload_n hx hb (dk_at dkX12_ahead_1 11 rfl) rfl (lv_at hl 1 rfl) ?_
        refine lv_iconst (v := iI 0) hx hb (dk_at dkX12_ahead_1 12 rfl) (by decide +kernel) ?_
        refine x_put (D := (dC, dI)) (ci := 12) (v := .int (iI 0)) (ty := .int) (C := RX12) (T := TX12) (N := 85) hx hb hts hiX12 tyX12 tyX12_ok nmX12 hown hK hP hDD hS 0 wm0 rfl 3 (by decide) (hts _ (List.mem_cons_of_mem _ wlq_0_24)) (fun _ h9 => h9) rfl (by decide +kernel) rfl rfl (Nat.le_of_ble_eq_true rfl) (dk_at dkX12_ahead_1 13 rfl) (wf3 (v := 0)) (fun H locs hP hS => ?_)
        have hI := hI.st (j := 0) (i := 3) (v := 0) (show (0 : Int) ≤ 0 ∧ 0 ≤ 3 from (by omega))
        refine lv_iload_n hx hb (dk_at dkX12_ahead_1 14 rfl) rfl (lv_at hl 0 rfl) ?_
        refine lv_aload_n hx hb (dk_at dkX12_ahead_1 15 rfl) rfl (lv_at hl 1 rfl) ?_
        refine va_get (D := (dC, dI)) (ci := 12) (v := .int (iI (A 0 2))) (C := RX12) (T := TX12) (N := 85) hx hb hts hiX12 hown hK hP 0 wm0 rfl 2 (by decide) (hts _ (List.mem_cons_of_mem _ wlq_0_22)) (fun _ h9 => h9) rfl (dk_at dkX12_ahead_2 0 rfl) ?_
        refine lv_icmp_lt (tgt := 65) hx hb (dk_at dkX12_ahead_2 1 rfl) (by decide) (fun c17 => ?_) (fun c17 => ?_)
        · have c17 : z1 < (A 0 2) := (i_lt (rb f7 (by decide) (by decide)) (rb r_A_0_2 (by decide) (by decide))).mp c17
          refine lv_aload_n hx hb (dk_at dkX12_ahead_2 3 rfl) rfl (lv_at hl 1 rfl) ?_
          refine va_get (D := (dC, dI)) (ci := 12) (v := .ref (q 1)) (C := RX12) (T := TX12) (N := 85) hx hb hts hiX12 hown hK hP 0 wm0 rfl 0 (by decide) (hts _ (List.mem_cons_of_mem _ wlq_0_2)) (fun _ h9 => h9) rfl (dk_at dkX12_ahead_2 4 rfl) ?_
          refine lv_iload_n hx hb (dk_at dkX12_ahead_2 5 rfl) rfl (lv_at hl 0 rfl) ?_
          refine x_iald hx hb hK hP 1 1 wm1 rfl (by omega) (by decide) (dk_at dkX12_ahead_2 6 rfl) (fun z18 hz18 => ?_)
          have rz18 : (0 : Int) ≤ z18 ∧ z18 ≤ 255 := by rw [hz18]; exact hI 1 _
          have gz18 := Hd.mk hz18
          have hz18 : z18 = A 1 (z1).toNat := hz18
          obtain ⟨A19, hA19⟩ : ∃ A19 : St, A19 = (stA (stA (stA A 0 4 z1) 0 5 z1) 0 3 0) := ⟨_, rfl⟩
          rw [← hA19] at hP hI
          refine x_callSi (As := [.int (iI z18)]) (rest := []) ⟨hx, hb, hml, hown, hts⟩ (mc_X12_isLetter l dC dI cB cI cJ cZ cQ q _ z18 hI (rb rz18 (by decide) (by decide))) (va_cwS 1 hts (goodS wlq_0_27 wlq_0_28 wlq_0_8 wlq_0_18) rfl rfl rfl (by decide +kernel) ⟨Nat.le_of_ble_eq_true rfl, Nat.le_of_ble_eq_true rfl⟩) hK hDD hA0 hP hS rfl hl.1 (Nat.le_of_ble_eq_true rfl) (dk_at dkX12_ahead_2 7 rfl) (fun z20 A21 H locs hw22 hP hS => ?_)
          obtain ⟨rfl, hw22⟩ := hw22
          have ghw22 : q_X12_isLetter z18 A19 z20 := hw22
          have hw22 := hw22.2
          have rz20 : 0 ≤ z20 ∧ z20 ≤ 1 := hw22.1
          replace hw22 := Hd.mk hw22.2
          refine lv_istore_n (lv' := [(2, .int (iI z20)), (1, .int (iI z1)), (0, .ref (q 0))]) hx hb (dk_at dkX12_ahead_2 8 rfl) rfl hl (by decide) rfl (fun ls hl => ?_)
          refine lv_aload_n hx hb (dk_at dkX12_ahead_2 9 rfl) rfl (lv_at hl 2 rfl) ?_
          refine va_get (D := (dC, dI)) (ci := 12) (v := .ref (q 1)) (C := RX12) (T := TX12) (N := 85) hx hb hts hiX12 hown hK hP 0 wm0 rfl 0 (by decide) (hts _ (List.mem_cons_of_mem _ wlq_0_2)) (fun _ h9 => h9) rfl (dk_at dkX12_ahead_2 10 rfl) ?_
          refine lv_iload_n hx hb (dk_at dkX12_ahead_2 11 rfl) rfl (lv_at hl 1 rfl) ?_
          have a_A19_1 : A19 1 = A 1 := by rw [hA19]; exact rfl
          refine x_iald hx hb hK hP 1 1 wm1 rfl (by omega) (by decide) (dk_at dkX12_ahead_2 12 rfl) (fun z23 hz23 => ?_)
          have rz23 : (0 : Int) ≤ z23 ∧ z23 ≤ 255 := by rw [hz23]; exact hI 1 _
          have gz23 := Hd.mk hz23
          have hz23 : z23 = A 1 (z1).toNat := hz23.trans (congrFun a_A19_1 _)
          have ez23 : z23 = z18 := hz23.trans hz18.symm
          refine x_callSi (As := [.int (iI z23)]) (rest := []) ⟨hx, hb, hml, hown, hts⟩ (mc_X12_isDigit l dC dI cB cI cJ cZ cQ q _ z23 hI (rb rz23 (by decide) (by decide))) (va_cwS 1 hts (goodS wlq_0_29 wlq_0_30 wlq_0_8 wlq_0_19) rfl rfl rfl (by decide +kernel) ⟨Nat.le_of_ble_eq_true rfl, Nat.le_of_ble_eq_true rfl⟩) hK hDD hA0 hP hS rfl hl.1 (Nat.le_of_ble_eq_true rfl) (dk_at dkX12_ahead_2 13 rfl) (fun z24 A25 H locs hw26 hP hS => ?_)
          obtain ⟨rfl, hw26⟩ := hw26
          have ghw26 : q_X12_isDigit z23 A19 z24 := hw26
          have hw26 := hw26.2
          have rz24 : 0 ≤ z24 ∧ z24 ≤ 1 := hw26.1
          replace hw26 := Hd.mk hw26.2
          refine lv_istore_n (lv' := [(3, .int (iI z24)), (2, .int (iI z20)), (1, .int (iI z1)), (0, .ref (q 0))]) hx hb (dk_at dkX12_ahead_2 14 rfl) rfl hl (by decide) rfl (fun ls hl => ?_)
          refine lv_iload_n hx hb (dk_at dkX12_ahead_2 15 rfl) rfl (lv_at hl 1 rfl) ?_
          have J131_29 : ∀ (A49 : St) (H : Heap) (locs : List Loc) (ls : Array Slot), (Hd ((A49 0 8) = 0 → A 0 8 = 0 ∧ (z20 = 1 → 1 ≤ z1 → (A 1 (z1 - 1).toNat < 97 ∨ 122 < A 1 (z1 - 1).toNat)))) → (∀ (u : St), (∃ mm1 : Nat, (d_X12_ahead_6 z1 z20 z24 A u A49)) → r_X12_ahead A u) → IM A49 → fr [] [8, 9] A19 A49 → va_P (dC, dI) vwCl (WM cI cJ cZ q A49) H → va_S AS s.heap H locs → lv_has ls 6 [(3, .int (iI z24)), (2, .int (iI z20)), (1, .int (iI z1)), (0, .ref (q 0))] → W p l e (headSpec ws_mb_X12_ahead ({ frames := 1, cells := 0, slots := 0, locals := 22 } : Room)).room s m [.ref (q 0)].toArray below meth c H locs 0 0 Q (F0 m 131 ls []) := by
            intro A49 H locs ls f50 hk6 hI hj48 hP hS hl
            have gI51 : Hd (IM A49) := Hd.mk hI
            refine lv_aload_n hx hb (dk_at dkX12_ahead_4 9 rfl) rfl (lv_at hl 3 rfl) ?_
            refine lv_iconst (v := iI 0) hx hb (dk_at dkX12_ahead_4 10 rfl) (by decide +kernel) ?_
            refine x_put (D := (dC, dI)) (ci := 12) (v := .int (iI 0)) (ty := .int) (C := RX12) (T := TX12) (N := 85) hx hb hts hiX12 tyX12 tyX12_ok nmX12 hown hK hP hDD hS 0 wm0 rfl 6 (by decide) (hts _ (List.mem_cons_of_mem _ wlq_0_25)) (fun _ h9 => h9) rfl (by decide +kernel) rfl rfl (Nat.le_of_ble_eq_true rfl) (dk_at dkX12_ahead_4 11 rfl) (wf6 (v := 0)) (fun H locs hP hS => ?_)
            have hI := hI.st (j := 0) (i := 6) (v := 0) (show (-2147483648 : Int) ≤ 0 ∧ 0 ≤ 2147483647 from (by omega))
            refine lv_aload_n hx hb (dk_at dkX12_ahead_4 12 rfl) rfl (lv_at hl 3 rfl) ?_
            refine lv_lconst (v := jI 0) hx hb (dk_at dkX12_ahead_4 13 rfl) (by decide +kernel) ?_
            refine x_put (D := (dC, dI)) (ci := 12) (v := .long (jI 0)) (ty := .long) (C := RX12) (T := TX12) (N := 85) hx hb hts hiX12 tyX12 tyX12_ok nmX12 hown hK hP hDD hS 0 wm0 rfl 7 (by decide) (hts _ (List.mem_cons_of_mem _ wlq_0_26)) (fun _ h9 => h9) rfl (by decide +kernel) rfl rfl (Nat.le_of_ble_eq_true rfl) (dk_at dkX12_ahead_4 14 rfl) (wf7 (v := 0)) (fun H locs hP hS => ?_)
            have hI := hI.st (j := 0) (i := 7) (v := 0) (show (-9223372036854775808 : Int) ≤ 0 ∧ 0 ≤ 9223372036854775807 from (by omega))
            refine lv_aload_n hx hb (dk_at dkX12_ahead_4 15 rfl) rfl (lv_at hl 3 rfl) ?_
            refine lv_iconst (v := iI 3) hx hb (dk_at dkX12_ahead_5 0 rfl) (by decide +kernel) ?_
            refine x_put (D := (dC, dI)) (ci := 12) (v := .int (iI 3)) (ty := .int) (C := RX12) (T := TX12) (N := 85) hx hb hts hiX12 tyX12 tyX12_ok nmX12 hown hK hP hDD hS 0 wm0 rfl 3 (by decide) (hts _ (List.mem_cons_of_mem _ wlq_0_24)) (fun _ h9 => h9) rfl (by decide +kernel) rfl rfl (Nat.le_of_ble_eq_true rfl) (dk_at dkX12_ahead_5 1 rfl) (wf3 (v := 3)) (fun H locs hP hS => ?_)
            have hI := hI.st (j := 0) (i := 3) (v := 3) (show (0 : Int) ≤ 3 ∧ 3 ≤ 3 from (by omega))
            refine lv_aload_n hx hb (dk_at dkX12_ahead_5 2 rfl) rfl (lv_at hl 3 rfl) ?_
            refine lv_iload_n hx hb (dk_at dkX12_ahead_5 3 rfl) rfl (lv_at hl 2 rfl) ?_
            refine lv_iconst (v := iI 1) hx hb (dk_at dkX12_ahead_5 4 rfl) (by decide +kernel) ?_
            refine x_addv (v := z1 + 1) hx hb (dk_at dkX12_ahead_5 5 rfl) (by omega) ?_
            refine x_put (D := (dC, dI)) (ci := 12) (v := .int (iI (z1 + 1))) (ty := .int) (C := RX12) (T := TX12) (N := 85) hx hb hts hiX12 tyX12 tyX12_ok nmX12 hown hK hP hDD hS 0 wm0 rfl 5 (by decide) (hts _ (List.mem_cons_of_mem _ wlq_0_21)) (fun _ h9 => h9) rfl (by decide +kernel) rfl rfl (Nat.le_of_ble_eq_true rfl) (dk_at dkX12_ahead_5 6 rfl) (wf5 (v := z1 + 1)) (fun H locs hP hS => ?_)
            have hI := hI.st (j := 0) (i := 5) (v := z1 + 1) (show (0 : Int) ≤ z1 + 1 ∧ z1 + 1 ≤ 1600 from (by omega))
            refine lv_iload_n hx hb (dk_at dkX12_ahead_5 7 rfl) rfl (lv_at hl 1 rfl) ?_
            obtain ⟨A52, hA52⟩ : ∃ A52 : St, A52 = (stA (stA (stA (stA A49 0 6 0) 0 7 0) 0 3 3) 0 5 (z1 + 1)) := ⟨_, rfl⟩
            rw [← hA52] at hP hI
            have J172_54 : ∀ (H : Heap) (locs : List Loc) (ls : Array Slot), (Hd (z20 = 1 ∨ z24 = 1)) → (∀ (u : St), (∃ mm1 : Nat, (d_X12_ahead_7 z1 z20 z24 A A52 u)) → r_X12_ahead A u) → va_P (dC, dI) vwCl (WM cI cJ cZ q A52) H → va_S AS s.heap H locs → lv_has ls 6 [(3, .int (iI z24)), (2, .int (iI z20)), (1, .int (iI z1)), (0, .ref (q 0))] → W p l e (headSpec ws_mb_X12_ahead ({ frames := 1, cells := 0, slots := 0, locals := 22 } : Room)).room s m [.ref (q 0)].toArray below meth c H locs 0 0 Q (F0 m 172 ls []) := by
              intro H locs ls f59 hk7 hP hS hl
              refine lv_aload_n hx hb (dk_at dkX12_ahead_6 2 rfl) rfl (lv_at hl 3 rfl) ?_
              refine lv_iload_n hx hb (dk_at dkX12_ahead_6 3 rfl) rfl (lv_at hl 1 rfl) ?_
              have J182_61 : ∀ (z62 : Int) (H : Heap) (locs : List Loc) (ls : Array Slot), (1 ≤ z62 ∧ z62 ≤ 2) → (Hd ((z20 = 1 ∧ z62 = 1) ∨ (z20 = 0 ∧ z62 = 2))) → (∀ (u : St), (∃ mm1 : Nat, (d_X12_ahead_8 z1 z20 z24 A A52 u z62)) → r_X12_ahead A u) → va_P (dC, dI) vwCl (WM cI cJ cZ q A52) H → va_S AS s.heap H locs → lv_has ls 6 [(3, .int (iI z24)), (2, .int (iI z20)), (1, .int (iI z1)), (0, .ref (q 0))] → W p l e (headSpec ws_mb_X12_ahead ({ frames := 1, cells := 0, slots := 0, locals := 22 } : Room)).room s m [.ref (q 0)].toArray below meth c H locs 0 0 Q (F0 m 182 ls [.int (iI z62), .ref (q 0)]) := by
                intro z62 H locs ls f64 f65 hk8 hP hS hl
                refine x_put (D := (dC, dI)) (ci := 12) (v := .int (iI z62)) (ty := .int) (C := RX12) (T := TX12) (N := 85) hx hb hts hiX12 tyX12 tyX12_ok nmX12 hown hK hP hDD hS 0 wm0 rfl 3 (by decide) (hts _ (List.mem_cons_of_mem _ wlq_0_24)) (fun _ h9 => h9) rfl (by decide +kernel) rfl rfl (Nat.le_of_ble_eq_true rfl) (dk_at dkX12_ahead_6 8 rfl) (wf3 (v := z62)) (fun H locs hP hS => ?_)
                have hI := hI.st (j := 0) (i := 3) (v := z62) (show (0 : Int) ≤ z62 ∧ z62 ≤ 3 from (by omega))
                refine lv_iload_n hx hb (dk_at dkX12_ahead_6 9 rfl) rfl (lv_at hl 1 rfl) ?_
                obtain ⟨A66, hA66⟩ : ∃ A66 : St, A66 = (stA A52 0 3 z62) := ⟨_, rfl⟩
                rw [← hA66] at hP hI
                have J195_68 : ∀ (z69 : Int) (H : Heap) (locs : List Loc) (ls : Array Slot), (4 ≤ z69 ∧ z69 ≤ 6) → (Hd (z20 = 1 → z69 = 6)) → (∀ (u : St), (∃ mm1 : Nat, (d_X12_ahead_9 z1 z20 z24 A A66 u z69)) → r_X12_ahead A u) → va_P (dC, dI) vwCl (WM cI cJ cZ q A66) H → va_S AS s.heap H locs → lv_has ls 6 [(3, .int (iI z24)), (2, .int (iI z20)), (1, .int (iI z1)), (0, .ref (q 0))] → W p l e (headSpec ws_mb_X12_ahead ({ frames := 1, cells := 0, slots := 0, locals := 22 } : Room)).room s m [.ref (q 0)].toArray below meth c H locs 0 0 Q (F0 m 195 ls [.int (iI z69)]) := by
                  intro z69 H locs ls f71 f72 hk9 hP hS hl
                  refine lv_istore (lv' := [(4, .int (iI z69)), (3, .int (iI z24)), (2, .int (iI z20)), (1, .int (iI z1)), (0, .ref (q 0))]) hx hb (dk_at dkX12_ahead_6 14 rfl) hl (by decide) rfl (fun ls hl => ?_)
                  refine lv_iconst (v := iI 0) hx hb (dk_at dkX12_ahead_6 15 rfl) (by decide +kernel) ?_
                  refine lv_istore (lv' := [(5, .int (iI 0)), (4, .int (iI z69)), (3, .int (iI z24)), (2, .int (iI z20)), (1, .int (iI z1)), (0, .ref (q 0))]) hx hb (dk_at dkX12_ahead_7 0 rfl) hl (by decide) rfl (fun ls hl => ?_)
                  have e_A19_4 : A19 0 4 = z1 := by rw [hA19]; rfl
                  have e_A49_4 : A49 0 4 = z1 := (hj48.2 4 rfl).trans e_A19_4
                  have e_A52_4 : A52 0 4 = z1 := by rw [hA52]; exact e_A49_4
                  have e_A66_4 : A66 0 4 = z1 := by rw [hA66]; exact e_A52_4
                  have e_A52_7 : A52 0 7 = 0 := by rw [hA52]; rfl
                  have e_A66_7 : A66 0 7 = 0 := by rw [hA66]; exact e_A52_7
                  have e_A52_8 : A52 0 8 = (A49 0 8) := by rw [hA52]; exact rfl
                  have e_A66_8 : A66 0 8 = (A49 0 8) := by rw [hA66]; exact e_A52_8
                  have r_A49_0_8 : (0 : Int) ≤ (A49 0 8) ∧ (A49 0 8) ≤ 5 := by rw [← e_A66_8]; exact hI 0 8
                  have L200_77 : ∀ (n79 : Nat) (z73 z74 : Int) (A76 : St) (H : Heap) (locs : List Loc) (ls : Array Slot), (0 ≤ z73) → (0 ≤ z73 ∧ z73 ≤ 1600) → (z1 ≤ z74) → (0 ≤ z74 ∧ z74 ≤ 1600) → (z73 ≤ z74) → (z74 = (A76 0 4) + z73) → (Hd ((A76 0 8) = 0 → A66 0 8 = 0)) → (Hd (z20 = 1 → ((z73 = 0 ∧ z74 < A 0 2 ∧ 97 ≤ A 1 z74.toNat ∧ A 1 z74.toNat ≤ 122) ∨ (1 ≤ z73 ∧ 97 ≤ A 1 (z74 - 1).toNat ∧ A 1 (z74 - 1).toNat ≤ 122)))) → (Hd (z20 = 0 → ((z73 = 0 ∧ z74 < A 0 2 ∧ 48 ≤ A 1 z74.toNat ∧ A 1 z74.toNat ≤ 57) ∨ 1 ≤ z73))) → (Hd (z20 = 1 → ((z73 = 0 → (A76 0 7) = 0) ∧ (z73 ≤ 1 → 0 ≤ (A76 0 7) ∧ (A76 0 7) ≤ 255) ∧ (z73 ≤ 2 → 0 ≤ (A76 0 7) ∧ (A76 0 7) ≤ 65535)))) → (∀ (u : St), (∃ mm1 mm10 : Nat, (d_X12_ahead_10 z20 z24 z69 A u mm10 z73 z74 A76)) → r_X12_ahead A u) → (((A 0 2) - z74 + 1).toNat = n79) → IM A76 → fr [] [6, 7, 8, 9] A66 A76 → va_P (dC, dI) vwCl (WM cI cJ cZ q A76) H → va_S AS s.heap H locs → lv_has ls 6 [(5, .int (iI z73)), (4, .int (iI z69)), (3, .int (iI z24)), (2, .int (iI z20)), (1, .int (iI z74)), (0, .ref (q 0))] → W p l e (headSpec ws_mb_X12_ahead ({ frames := 1, cells := 0, slots := 0, locals := 22 } : Room)).room s m [.ref (q 0)].toArray below meth c H locs 0 0 Q (F0 m 200 ls []) := by
                    intro n79
                    induction n79 using Nat.strongRecOn with
                    | ind n79 ih78 =>
                      intro z73 z74 A76 H locs ls f80 f81 f82 f83 f84 f85 f86 f87 f88 f89 hk10 hn79 hI hj75 hP hS hl
                      have gI90 : Hd (IM A76) := Hd.mk hI
                      have e_A19_4 : A19 0 4 = z1 := by rw [hA19]; rfl
                      have e_A49_4 : A49 0 4 = z1 := (hj48.2 4 rfl).trans e_A19_4
                      have e_A52_4 : A52 0 4 = z1 := by rw [hA52]; exact e_A49_4
                      have e_A66_4 : A66 0 4 = z1 := by rw [hA66]; exact e_A52_4
                      have e_A76_4 : A76 0 4 = z1 := (hj75.2 4 rfl).trans e_A66_4
                      have r_A76_0_7 : (-9223372036854775808 : Int) ≤ (A76 0 7) ∧ (A76 0 7) ≤ 9223372036854775807 := hI 0 7
                      have r_A76_0_8 : (0 : Int) ≤ (A76 0 8) ∧ (A76 0 8) ≤ 5 := hI 0 8
                      refine lv_iload_n hx hb (dk_at dkX12_ahead_7 1 rfl) rfl (lv_at hl 4 rfl) ?_
                      refine lv_aload_n hx hb (dk_at dkX12_ahead_7 2 rfl) rfl (lv_at hl 5 rfl) ?_
                      have e_A19_2 : A19 0 2 = (A 0 2) := by rw [hA19]; exact rfl
                      have e_A49_2 : A49 0 2 = (A 0 2) := (hj48.2 2 rfl).trans e_A19_2
                      have e_A52_2 : A52 0 2 = (A 0 2) := by rw [hA52]; exact e_A49_2
                      have e_A66_2 : A66 0 2 = (A 0 2) := by rw [hA66]; exact e_A52_2
                      have e_A76_2 : A76 0 2 = (A 0 2) := (hj75.2 2 rfl).trans e_A66_2
                      refine va_get (D := (dC, dI)) (ci := 12) (v := .int (iI (A76 0 2))) (C := RX12) (T := TX12) (N := 85) hx hb hts hiX12 hown hK hP 0 wm0 rfl 2 (by decide) (hts _ (List.mem_cons_of_mem _ wlq_0_22)) (fun _ h9 => h9) rfl (dk_at dkX12_ahead_7 3 rfl) ?_
                      refine tp_i (y := iI (A 0 2)) (congrArg iI e_A76_2) ?_
                      refine lv_icmp_ge (tgt := 323) hx hb (dk_at dkX12_ahead_7 4 rfl) (by decide) (fun c91 => ?_) (fun c91 => ?_)
                      · have c91 : (A 0 2) ≤ z74 := (i_le (rb r_A_0_2 (by decide) (by decide)) (rb f83 (by decide) (by decide))).mp c91
                        refine lv_aload_n hx hb (dk_at dkX12_ahead_11 1 rfl) rfl (lv_at hl 5 rfl) ?_
                        refine lv_iload_n hx hb (dk_at dkX12_ahead_11 2 rfl) rfl (lv_at hl 4 rfl) ?_
                        refine x_put (D := (dC, dI)) (ci := 12) (v := .int (iI z74)) (ty := .int) (C := RX12) (T := TX12) (N := 85) hx hb hts hiX12 tyX12 tyX12_ok nmX12 hown hK hP hDD hS 0 wm0 rfl 5 (by decide) (hts _ (List.mem_cons_of_mem _ wlq_0_21)) (fun _ h9 => h9) rfl (by decide +kernel) rfl rfl (Nat.le_of_ble_eq_true rfl) (dk_at dkX12_ahead_11 3 rfl) (wf5 (v := z74)) (fun H locs hP hS => ?_)
                        have hI := hI.st (j := 0) (i := 5) (v := z74) (show (0 : Int) ≤ z74 ∧ z74 ≤ 1600 from (by omega))
                        obtain ⟨A92, hA92⟩ : ∃ A92 : St, A92 = (stA A76 0 5 z74) := ⟨_, rfl⟩
                        rw [← hA92] at hP hI
                        have e_A66_3 : A66 0 3 = z62 := by rw [hA66]; rfl
                        have e_A76_3 : A76 0 3 = z62 := (hj75.2 3 rfl).trans e_A66_3
                        have e_A92_3 : A92 0 3 = z62 := by rw [hA92]; exact e_A76_3
                        have e_A92_4 : A92 0 4 = z1 := by rw [hA92]; exact e_A76_4
                        have e_A92_5 : A92 0 5 = z74 := by rw [hA92]; rfl
                        have e_A92_7 : A92 0 7 = (A76 0 7) := by rw [hA92]; exact rfl
                        have e_A92_8 : A92 0 8 = (A76 0 8) := by rw [hA92]; exact rfl
                        have a_A49_1 : A49 1 = A 1 := (hj48.1 1 (by decide) rfl).trans a_A19_1
                        have a_A52_1 : A52 1 = A 1 := by rw [hA52]; exact a_A49_1
                        have a_A66_1 : A66 1 = A 1 := by rw [hA66]; exact a_A52_1
                        have a_A76_1 : A76 1 = A 1 := (hj75.1 1 (by decide) rfl).trans a_A66_1
                        have a_A92_1 : A92 1 = A 1 := by rw [hA92]; exact a_A76_1
                        have hpost : A 0 5 ≤ A92 0 4 ∧ A92 0 4 ≤ A92 0 5 ∧ LX A92 ∧ (A92 0 8 = 0 → A 0 8 = 0) ∧ (A92 0 8 = 0 → A92 0 3 = 1 → 1 ≤ A92 0 4 → (A 1 (A92 0 4 - 1).toNat < 97 ∨ 122 < A 1 (A92 0 4 - 1).toNat)) := by
                          rcases (show z20 = 0 ∨ z20 = 1 by omega) with hl | hl
                          · have g1 := f65.out
                            have gs : z62 = 2 := by omega
                            clear g1
                            have g2 := f88.out hl
                            have gn : 1 ≤ z73 := by omega
                            clear g2
                            have g8 : A92 0 8 = 0 → A 0 8 = 0 ∧ (z20 = 1 → 1 ≤ z1 → (A 1 (z1 - 1).toNat < 97 ∨ 122 < A 1 (z1 - 1).toNat)) := fun h0 => by
                              have h9 := f86.out (by omega)
                              have h10 := f50.out (by omega)
                              exact h10
                            have hLX : LX A92 := LX.mk' (A := A) (s := z62) (a := z1) (e := z74) (w := (A76 0 7)) a_A92_1 e_A92_3 e_A92_4 e_A92_5 e_A92_7 (by omega) (by intro h; omega) (by intro h h'; omega)
                            refine ⟨by omega, by omega, hLX, fun h0 => (g8 h0).1, ?_⟩
                            rw [e_A92_4]
                            intro h0 h1 h2
                            exact (g8 h0).2 (by omega) h2
                          · have g1 := f65.out
                            have gs : z62 = 1 := by omega
                            clear g1
                            have g2 := f87.out hl
                            have gn : 1 ≤ z73 := by omega
                            have g3 := f89.out hl
                            have gl : 97 ≤ A 1 (z74 - 1).toNat ∧ A 1 (z74 - 1).toNat ≤ 122 := by omega
                            clear g2
                            have g8 : A92 0 8 = 0 → A 0 8 = 0 ∧ (z20 = 1 → 1 ≤ z1 → (A 1 (z1 - 1).toNat < 97 ∨ 122 < A 1 (z1 - 1).toNat)) := fun h0 => by
                              have h9 := f86.out (by omega)
                              have h10 := f50.out (by omega)
                              exact h10
                            have hLX : LX A92 := LX.mk' (A := A) (s := z62) (a := z1) (e := z74) (w := (A76 0 7)) a_A92_1 e_A92_3 e_A92_4 e_A92_5 e_A92_7 (by omega) (by intro h; exact gl) (by intro h h'; omega)
                            refine ⟨by omega, by omega, hLX, fun h0 => (g8 h0).1, ?_⟩
                            rw [e_A92_4]
                            intro h0 h1 h2
                            exact (g8 h0).2 (by omega) h2
                        exact RET _ _ _ _ _ ⟨hk10 _ ⟨0, 0 + 1, (u_d_X12_ahead_10 ⟨gI90.out, ⟨f81, ⟨f83, (Or.inl ⟨c91, ⟨A92, hA92, rfl⟩⟩)⟩⟩⟩)⟩, hI, fr_def hA92 (fr.sf (fr.trans (fr_def hA66 (fr.sf (fr_def hA52 (fr.sf (fr.sf (fr.sf (fr.sf (fr.trans (fr_def hA19 (fr.sf (fr.sf (fr.sf (fr.rf) rfl) rfl) rfl)) hj48 rfl rfl) rfl) rfl) rfl) rfl)) rfl)) hj75 rfl rfl) rfl), hpost⟩ hP hS (dk_at dkX12_ahead_11 4 rfl)
                      · have c91 : ¬ (A 0 2) ≤ z74 := mt (i_le (rb r_A_0_2 (by decide) (by decide)) (rb f83 (by decide) (by decide))).mpr c91
                        refine lv_iload_n hx hb (dk_at dkX12_ahead_7 5 rfl) rfl (lv_at hl 3 rfl) ?_
                        have J239_94 : ∀ (H : Heap) (locs : List Loc) (ls : Array Slot), (Hd (z20 = 1 → 97 ≤ A 1 z74.toNat ∧ A 1 z74.toNat ≤ 122)) → (∀ (u : St), (∃ mm1 mm10 : Nat, (d_X12_ahead_11 (fun z73' z74' A76' => d_X12_ahead_10 z20 z24 z69 A u mm10 z73' z74' A76') z20 z24 z69 z73 z74 A76 u)) → r_X12_ahead A u) → va_P (dC, dI) vwCl (WM cI cJ cZ q A76) H → va_S AS s.heap H locs → lv_has ls 6 [(5, .int (iI z73)), (4, .int (iI z69)), (3, .int (iI z24)), (2, .int (iI z20)), (1, .int (iI z74)), (0, .ref (q 0))] → W p l e (headSpec ws_mb_X12_ahead ({ frames := 1, cells := 0, slots := 0, locals := 22 } : Room)).room s m [.ref (q 0)].toArray below meth c H locs 0 0 Q (F0 m 239 ls []) := by
                          intro H locs ls f108 hk11 hP hS hl
                          refine lv_iload hx hb (dk_at dkX12_ahead_8 4 rfl) (lv_at hl 0 rfl) ?_
                          refine lv_iload hx hb (dk_at dkX12_ahead_8 5 rfl) (lv_at hl 1 rfl) ?_
                          have J252_110 : ∀ (A115 : St) (H : Heap) (locs : List Loc) (ls : Array Slot), (Hd ((A115 0 8) = 0 → A76 0 8 = 0)) → (∀ (u : St), (∃ mm1 mm10 : Nat, (d_X12_ahead_12 (fun z73' z74' A76' => d_X12_ahead_10 z20 z24 z69 A u mm10 z73' z74' A76') z20 z24 z69 z73 z74 A76 u A115)) → r_X12_ahead A u) → IM A115 → fr [] [8, 9] A76 A115 → va_P (dC, dI) vwCl (WM cI cJ cZ q A115) H → va_S AS s.heap H locs → lv_has ls 6 [(5, .int (iI z73)), (4, .int (iI z69)), (3, .int (iI z24)), (2, .int (iI z20)), (1, .int (iI z74)), (0, .ref (q 0))] → W p l e (headSpec ws_mb_X12_ahead ({ frames := 1, cells := 0, slots := 0, locals := 22 } : Room)).room s m [.ref (q 0)].toArray below meth c H locs 0 0 Q (F0 m 252 ls []) := by
                            intro A115 H locs ls f116 hk12 hI hj114 hP hS hl
                            have gI117 : Hd (IM A115) := Hd.mk hI
                            refine lv_iload hx hb (dk_at dkX12_ahead_8 11 rfl) (lv_at hl 0 rfl) ?_
                            refine lv_iload hx hb (dk_at dkX12_ahead_8 12 rfl) (lv_at hl 1 rfl) ?_
                            have J282_119 : ∀ (A125 : St) (H : Heap) (locs : List Loc) (ls : Array Slot), (Hd (z20 = 1 → ((z73 = 0 → 0 ≤ (A125 0 7) ∧ (A125 0 7) ≤ 255) ∧ (z73 ≤ 1 → 0 ≤ (A125 0 7) ∧ (A125 0 7) ≤ 65535)))) → (∀ (u : St), (∃ mm1 mm10 : Nat, (d_X12_ahead_13 (fun z73' z74' A76' => d_X12_ahead_10 z20 z24 z69 A u mm10 z73' z74' A76') z24 z69 z73 z74 A76 u A125)) → r_X12_ahead A u) → IM A125 → fr [] [7] A115 A125 → va_P (dC, dI) vwCl (WM cI cJ cZ q A125) H → va_S AS s.heap H locs → lv_has ls 6 [(5, .int (iI z73)), (4, .int (iI z69)), (3, .int (iI z24)), (2, .int (iI z20)), (1, .int (iI z74)), (0, .ref (q 0))] → W p l e (headSpec ws_mb_X12_ahead ({ frames := 1, cells := 0, slots := 0, locals := 22 } : Room)).room s m [.ref (q 0)].toArray below meth c H locs 0 0 Q (F0 m 282 ls []) := by
                              intro A125 H locs ls f126 hk13 hI hj124 hP hS hl
                              have gI127 : Hd (IM A125) := Hd.mk hI
                              refine lv_iload hx hb (dk_at dkX12_ahead_9 12 rfl) (lv_at hl 0 rfl) ?_
                              refine lv_iload hx hb (dk_at dkX12_ahead_9 13 rfl) (lv_at hl 1 rfl) ?_
                              have J314_129 : ∀ (A136 : St) (H : Heap) (locs : List Loc) (ls : Array Slot), (∀ (u : St), (∃ mm1 mm10 : Nat, (d_X12_ahead_14 (fun z73' z74' A76' => d_X12_ahead_10 z20 z24 z69 A u mm10 z73' z74' A76') z73 z74 u A136)) → r_X12_ahead A u) → IM A136 → fr [] [6] A125 A136 → va_P (dC, dI) vwCl (WM cI cJ cZ q A136) H → va_S AS s.heap H locs → lv_has ls 6 [(5, .int (iI z73)), (4, .int (iI z69)), (3, .int (iI z24)), (2, .int (iI z20)), (1, .int (iI z74)), (0, .ref (q 0))] → W p l e (headSpec ws_mb_X12_ahead ({ frames := 1, cells := 0, slots := 0, locals := 22 } : Room)).room s m [.ref (q 0)].toArray below meth c H locs 0 0 Q (F0 m 314 ls []) := by
                                intro A136 H locs ls hk14 hI hj135 hP hS hl
                                have gI137 : Hd (IM A136) := Hd.mk hI
                                refine lv_iinc (v := iI (z73 + 1)) (lv' := [(5, .int (iI (z73 + 1))), (4, .int (iI z69)), (3, .int (iI z24)), (2, .int (iI z20)), (1, .int (iI z74)), (0, .ref (q 0))]) hx hb (dk_at dkX12_ahead_10 14 rfl) hl (k := 0) rfl (i_inc (by omega)) (by decide) rfl (fun ls hl => ?_)
                                refine lv_iinc (v := iI (z74 + 1)) (lv' := [(1, .int (iI (z74 + 1))), (5, .int (iI (z73 + 1))), (4, .int (iI z69)), (3, .int (iI z24)), (2, .int (iI z20)), (0, .ref (q 0))]) hx hb (dk_at dkX12_ahead_10 15 rfl) hl (k := 4) rfl (i_inc (by omega)) (by decide) rfl (fun ls hl => ?_)
                                refine lv_goto (tgt := 200) hx hb (dk_at dkX12_ahead_11 0 rfl) (by decide) ?_
                                have e_A115_4 : A115 0 4 = z1 := (hj114.2 4 rfl).trans e_A76_4
                                have e_A125_4 : A125 0 4 = z1 := (hj124.2 4 rfl).trans e_A115_4
                                have e_A136_4 : A136 0 4 = z1 := (hj135.2 4 rfl).trans e_A125_4
                                have e_A136_7 : A136 0 7 = (A125 0 7) := (hj135.2 7 rfl)
                                have r_A125_0_7 : (-9223372036854775808 : Int) ≤ (A125 0 7) ∧ (A125 0 7) ≤ 9223372036854775807 := by rw [← e_A136_7]; exact hI 0 7
                                have e_A125_8 : A125 0 8 = (A115 0 8) := (hj124.2 8 rfl)
                                have e_A136_8 : A136 0 8 = (A115 0 8) := (hj135.2 8 rfl).trans e_A125_8
                                have r_A115_0_8 : (0 : Int) ≤ (A115 0 8) ∧ (A115 0 8) ≤ 5 := by rw [← e_A136_8]; exact hI 0 8
                                exact ih78 _ (by omega) (z73 + 1) (z74 + 1) _ _ _ _ (by omega) (by omega) (by omega) (by omega) (by omega) (by omega) (by exact Hd.mk (by have g0 := f86.out; have g1 := f116.out;  omega)) (by exact Hd.mk (by simp only [Int.add_sub_cancel]; have g := f108.out; omega)) (by exact Hd.mk (by have g0 := hw26.out; have g1 := f59.out;  omega)) (by exact Hd.mk (by have g0 := f126.out;  omega)) (fun uq ⟨mm1, mm10, hq⟩ => hk14 _ ⟨mm1, mm10, (u_d_X12_ahead_14 ⟨gI137.out, hq⟩)⟩) rfl hI (fr.trans (fr.trans (fr.trans (fr.trans (fr.rf) hj75 rfl rfl) hj114 rfl rfl) hj124 rfl rfl) hj135 rfl rfl) hP hS (lv_sub hl [1, 2, 3, 4, 0, 5] rfl)
                              refine lv_icmp_ge (tgt := 314) hx hb (dk_at dkX12_ahead_9 14 rfl) (by decide) (fun c128 => ?_) (fun c128 => ?_)
                              · have c128 : z69 ≤ z73 := (i_le (rb f71 (by decide) (by decide)) (rb f81 (by decide) (by decide))).mp c128
                                exact J314_129 _ _ _ _ (fun uq ⟨mm1, mm10, hq⟩ => hk13 _ ⟨mm1, mm10, (u_d_X12_ahead_13 ⟨gI127.out, (Or.inl ⟨c128, hq⟩)⟩)⟩) hI (fr.rf) hP hS (lv_sub hl [0, 1, 2, 3, 4, 5] rfl)
                              · have c128 : ¬ z69 ≤ z73 := mt (i_le (rb f71 (by decide) (by decide)) (rb f81 (by decide) (by decide))).mpr c128
                                refine lv_iload_n hx hb (dk_at dkX12_ahead_9 15 rfl) rfl (lv_at hl 2 rfl) ?_
                                refine lv_if_eq (tgt := 314) hx hb (dk_at dkX12_ahead_10 0 rfl) (by decide) (fun c130 => ?_) (fun c130 => ?_)
                                · have c130 : z24 = 0 := (i_eq0 (rb rz24 (by decide) (by decide))).mp c130
                                  exact J314_129 _ _ _ _ (fun uq ⟨mm1, mm10, hq⟩ => hk13 _ ⟨mm1, mm10, (u_d_X12_ahead_13 ⟨gI127.out, (Or.inr ⟨c128, (Or.inl ⟨c130, hq⟩)⟩)⟩)⟩) hI (fr.rf) hP hS (lv_sub hl [0, 1, 2, 3, 4, 5] rfl)
                                · have c130 : ¬ z24 = 0 := mt (i_eq0 (rb rz24 (by decide) (by decide))).mpr c130
                                  refine lv_aload_n hx hb (dk_at dkX12_ahead_10 1 rfl) rfl (lv_at hl 5 rfl) ?_
                                  refine lv_bipush (v := iI 10) hx hb (dk_at dkX12_ahead_10 2 rfl) (by decide +kernel) ?_
                                  refine lv_aload_n hx hb (dk_at dkX12_ahead_10 3 rfl) rfl (lv_at hl 5 rfl) ?_
                                  have e_A115_6 : A115 0 6 = (A76 0 6) := (hj114.2 6 rfl)
                                  have e_A125_6 : A125 0 6 = (A76 0 6) := (hj124.2 6 rfl).trans e_A115_6
                                  refine va_get (D := (dC, dI)) (ci := 12) (v := .int (iI (A125 0 6))) (C := RX12) (T := TX12) (N := 85) hx hb hts hiX12 hown hK hP 0 wm0 rfl 6 (by decide) (hts _ (List.mem_cons_of_mem _ wlq_0_25)) (fun _ h9 => h9) rfl (dk_at dkX12_ahead_10 4 rfl) ?_
                                  refine tp_i (y := iI (A76 0 6)) (congrArg iI e_A125_6) ?_
                                  have r_A76_0_6 : (-2147483648 : Int) ≤ (A76 0 6) ∧ (A76 0 6) ≤ 2147483647 := by rw [← e_A125_6]; exact hI 0 6
                                  refine x_mulv (v := 10 * (A76 0 6)) hx hb (dk_at dkX12_ahead_10 5 rfl) (by omega) ?_
                                  refine x_absE (fun z131 gz131 hz131 => ?_)
                                  refine lv_aload_n hx hb (dk_at dkX12_ahead_10 6 rfl) rfl (lv_at hl 5 rfl) ?_
                                  refine va_get (D := (dC, dI)) (ci := 12) (v := .ref (q 1)) (C := RX12) (T := TX12) (N := 85) hx hb hts hiX12 hown hK hP 0 wm0 rfl 0 (by decide) (hts _ (List.mem_cons_of_mem _ wlq_0_2)) (fun _ h9 => h9) rfl (dk_at dkX12_ahead_10 7 rfl) ?_
                                  refine lv_iload_n hx hb (dk_at dkX12_ahead_10 8 rfl) rfl (lv_at hl 4 rfl) ?_
                                  have a_A49_1 : A49 1 = A 1 := (hj48.1 1 (by decide) rfl).trans a_A19_1
                                  have a_A52_1 : A52 1 = A 1 := by rw [hA52]; exact a_A49_1
                                  have a_A66_1 : A66 1 = A 1 := by rw [hA66]; exact a_A52_1
                                  have a_A76_1 : A76 1 = A 1 := (hj75.1 1 (by decide) rfl).trans a_A66_1
                                  have a_A115_1 : A115 1 = A 1 := (hj114.1 1 (by decide) rfl).trans a_A76_1
                                  have a_A125_1 : A125 1 = A 1 := (hj124.1 1 (by decide) rfl).trans a_A115_1
                                  refine x_iald hx hb hK hP 1 1 wm1 rfl (by omega) (by decide) (dk_at dkX12_ahead_10 9 rfl) (fun z132 hz132 => ?_)
                                  have rz132 : (0 : Int) ≤ z132 ∧ z132 ≤ 255 := by rw [hz132]; exact hI 1 _
                                  have gz132 := Hd.mk hz132
                                  have hz132 : z132 = A 1 (z74).toNat := hz132.trans (congrFun a_A125_1 _)
                                  refine x_addv (v := z131 + z132) hx hb (dk_at dkX12_ahead_10 10 rfl) (by omega) ?_
                                  refine x_absE (fun z133 gz133 hz133 => ?_)
                                  refine lv_bipush (v := iI 48) hx hb (dk_at dkX12_ahead_10 11 rfl) (by decide +kernel) ?_
                                  refine x_subv (v := z133 - 48) hx hb (dk_at dkX12_ahead_10 12 rfl) (by omega) ?_
                                  refine x_absE (fun z134 gz134 hz134 => ?_)
                                  refine x_put (D := (dC, dI)) (ci := 12) (v := .int (iI z134)) (ty := .int) (C := RX12) (T := TX12) (N := 85) hx hb hts hiX12 tyX12 tyX12_ok nmX12 hown hK hP hDD hS 0 wm0 rfl 6 (by decide) (hts _ (List.mem_cons_of_mem _ wlq_0_25)) (fun _ h9 => h9) rfl (by decide +kernel) rfl rfl (Nat.le_of_ble_eq_true rfl) (dk_at dkX12_ahead_10 13 rfl) (wf6 (v := z134)) (fun H locs hP hS => ?_)
                                  have hI := hI.st (j := 0) (i := 6) (v := z134) (show (-2147483648 : Int) ≤ z134 ∧ z134 ≤ 2147483647 from (by omega))
                                  exact J314_129 _ _ _ _ (fun uq ⟨mm1, mm10, hq⟩ => hk13 _ ⟨mm1, mm10, (u_d_X12_ahead_13 ⟨gI127.out, (Or.inr ⟨c128, (Or.inr ⟨c130, ⟨z131, gz131.out, ⟨z132, gz132.out, ⟨z133, gz133.out, ⟨z134, gz134.out, hq⟩⟩⟩⟩⟩)⟩)⟩)⟩) hI (fr.sf (fr.rf) rfl) hP hS (lv_sub hl [0, 1, 2, 3, 4, 5] rfl)
                            refine lv_icmp_ge (tgt := 282) hx hb (dk_at dkX12_ahead_8 13 rfl) (by decide) (fun c118 => ?_) (fun c118 => ?_)
                            · have c118 : z69 ≤ z73 := (i_le (rb f71 (by decide) (by decide)) (rb f81 (by decide) (by decide))).mp c118
                              have e_A115_7 : A115 0 7 = (A76 0 7) := (hj114.2 7 rfl)
                              exact J282_119 _ _ _ _ (by exact Hd.mk (by have g0 := f89.out; have g1 := f72.out;  omega)) (fun uq ⟨mm1, mm10, hq⟩ => hk12 _ ⟨mm1, mm10, (u_d_X12_ahead_12 ⟨gI117.out, (Or.inl ⟨c118, hq⟩)⟩)⟩) hI (fr.rf) hP hS (lv_sub hl [0, 1, 2, 3, 4, 5] rfl)
                            · have c118 : ¬ z69 ≤ z73 := mt (i_le (rb f71 (by decide) (by decide)) (rb f81 (by decide) (by decide))).mpr c118
                              refine lv_iload_n hx hb (dk_at dkX12_ahead_8 14 rfl) rfl (lv_at hl 3 rfl) ?_
                              refine lv_if_eq (tgt := 282) hx hb (dk_at dkX12_ahead_8 15 rfl) (by decide) (fun c120 => ?_) (fun c120 => ?_)
                              · have c120 : z20 = 0 := (i_eq0 (rb rz20 (by decide) (by decide))).mp c120
                                have e_A115_7 : A115 0 7 = (A76 0 7) := (hj114.2 7 rfl)
                                exact J282_119 _ _ _ _ (by exact Hd.mk (by have g0 := f89.out; have g1 := f72.out;  omega)) (fun uq ⟨mm1, mm10, hq⟩ => hk12 _ ⟨mm1, mm10, (u_d_X12_ahead_12 ⟨gI117.out, (Or.inr ⟨c118, (Or.inl ⟨c120, hq⟩)⟩)⟩)⟩) hI (fr.rf) hP hS (lv_sub hl [0, 1, 2, 3, 4, 5] rfl)
                              · have c120 : ¬ z20 = 0 := mt (i_eq0 (rb rz20 (by decide) (by decide))).mpr c120
                                refine lv_aload_n hx hb (dk_at dkX12_ahead_9 0 rfl) rfl (lv_at hl 5 rfl) ?_
                                refine lv_aload_n hx hb (dk_at dkX12_ahead_9 1 rfl) rfl (lv_at hl 5 rfl) ?_
                                have e_A115_7 : A115 0 7 = (A76 0 7) := (hj114.2 7 rfl)
                                refine va_get (D := (dC, dI)) (ci := 12) (v := .long (jI (A115 0 7))) (C := RX12) (T := TX12) (N := 85) hx hb hts hiX12 hown hK hP 0 wm0 rfl 7 (by decide) (hts _ (List.mem_cons_of_mem _ wlq_0_26)) (fun _ h9 => h9) rfl (dk_at dkX12_ahead_9 2 rfl) ?_
                                refine tp_l (y := jI (A76 0 7)) (congrArg jI e_A115_7) ?_
                                refine lv_bipush (v := iI 8) hx hb (dk_at dkX12_ahead_9 3 rfl) (by decide +kernel) ?_
                                refine x_lshl8E hx hb (dk_at dkX12_ahead_9 4 rfl) (fun z121 gz121 hz121 hz121b => ?_)
                                replace hz121b := Hd.mk hz121b
                                refine lv_aload_n hx hb (dk_at dkX12_ahead_9 5 rfl) rfl (lv_at hl 5 rfl) ?_
                                refine va_get (D := (dC, dI)) (ci := 12) (v := .ref (q 1)) (C := RX12) (T := TX12) (N := 85) hx hb hts hiX12 hown hK hP 0 wm0 rfl 0 (by decide) (hts _ (List.mem_cons_of_mem _ wlq_0_2)) (fun _ h9 => h9) rfl (dk_at dkX12_ahead_9 6 rfl) ?_
                                refine lv_iload_n hx hb (dk_at dkX12_ahead_9 7 rfl) rfl (lv_at hl 4 rfl) ?_
                                have a_A49_1 : A49 1 = A 1 := (hj48.1 1 (by decide) rfl).trans a_A19_1
                                have a_A52_1 : A52 1 = A 1 := by rw [hA52]; exact a_A49_1
                                have a_A66_1 : A66 1 = A 1 := by rw [hA66]; exact a_A52_1
                                have a_A76_1 : A76 1 = A 1 := (hj75.1 1 (by decide) rfl).trans a_A66_1
                                have a_A115_1 : A115 1 = A 1 := (hj114.1 1 (by decide) rfl).trans a_A76_1
                                refine x_iald hx hb hK hP 1 1 wm1 rfl (by omega) (by decide) (dk_at dkX12_ahead_9 8 rfl) (fun z122 hz122 => ?_)
                                have rz122 : (0 : Int) ≤ z122 ∧ z122 ≤ 255 := by rw [hz122]; exact hI 1 _
                                have gz122 := Hd.mk hz122
                                have hz122 : z122 = A 1 (z74).toNat := hz122.trans (congrFun a_A115_1 _)
                                refine lv_i2l (v := jI z122) hx hb (dk_at dkX12_ahead_9 9 rfl) (i2l_v (rb rz122 (by decide) (by decide))) ?_
                                refine x_lorE hx hb (dk_at dkX12_ahead_9 10 rfl) (fun z123 gz123 hz123 hz123b hz123c => ?_)
                                replace hz123b := Hd.mk hz123b
                                replace hz123c := Hd.mk hz123c
                                refine x_put (D := (dC, dI)) (ci := 12) (v := .long (jI z123)) (ty := .long) (C := RX12) (T := TX12) (N := 85) hx hb hts hiX12 tyX12 tyX12_ok nmX12 hown hK hP hDD hS 0 wm0 rfl 7 (by decide) (hts _ (List.mem_cons_of_mem _ wlq_0_26)) (fun _ h9 => h9) rfl (by decide +kernel) rfl rfl (Nat.le_of_ble_eq_true rfl) (dk_at dkX12_ahead_9 11 rfl) (wf7 (v := z123)) (fun H locs hP hS => ?_)
                                have hI := hI.st (j := 0) (i := 7) (v := z123) (show (-9223372036854775808 : Int) ≤ z123 ∧ z123 ≤ 9223372036854775807 from (by omega))
                                obtain ⟨A138, hA138⟩ : ∃ A138 : St, A138 = (stA A115 0 7 z123) := ⟨_, rfl⟩
                                rw [← hA138] at hP hI
                                have e_A138_7 : A138 0 7 = z123 := by rw [hA138]; rfl
                                exact J282_119 _ _ _ _ (by exact Hd.mk (by have g0 := f89.out; have g1 := f72.out; have g2 := hz121b.out; have g3 := hz123b.out; have g4 := hz123c.out;  omega)) (fun uq ⟨mm1, mm10, hq⟩ => hk12 _ ⟨mm1, mm10, (u_d_X12_ahead_12 ⟨gI117.out, (Or.inr ⟨c118, (Or.inr ⟨c120, ⟨z121, gz121.out, ⟨z122, gz122.out, ⟨z123, gz123.out, ⟨A138, hA138, hq⟩⟩⟩⟩⟩)⟩)⟩)⟩) hI (fr_def hA138 (fr.sf (fr.rf) rfl)) hP hS (lv_sub hl [0, 1, 2, 3, 4, 5] rfl)
                          refine lv_icmp_ne (tgt := 252) hx hb (dk_at dkX12_ahead_8 6 rfl) (by decide) (fun c109 => ?_) (fun c109 => ?_)
                          · have c109 : ¬ z73 = z69 := mt (i_eq (rb f81 (by decide) (by decide)) (rb f71 (by decide) (by decide))).mpr c109
                            exact J252_110 _ _ _ _ (by exact Hd.mk (by  omega)) (fun uq ⟨mm1, mm10, hq⟩ => hk11 _ ⟨mm1, mm10, (u_d_X12_ahead_11 (Or.inl ⟨c109, hq⟩))⟩) hI (fr.rf) hP hS (lv_sub hl [0, 1, 2, 3, 4, 5] rfl)
                          · have c109 : z73 = z69 := (i_eq (rb f81 (by decide) (by decide)) (rb f71 (by decide) (by decide))).mp c109
                            refine lv_aload_n hx hb (dk_at dkX12_ahead_8 7 rfl) rfl (lv_at hl 5 rfl) ?_
                            refine lv_iconst (v := iI 1) hx hb (dk_at dkX12_ahead_8 8 rfl) (by decide +kernel) ?_
                            refine lv_iload_n hx hb (dk_at dkX12_ahead_8 9 rfl) rfl (lv_at hl 4 rfl) ?_
                            refine x_callv (As := [.int (iI 1), .int (iI z74)]) (rest := []) ⟨hx, hb, hml, hown, hts⟩ (mc_X12_blame l dC dI cB cI cJ cZ cQ q _ 1 z74 hI ⟨by decide, by decide⟩ f83) (cwV 2 hts (goodV wlq_0_31 wlq_0_32 wlq_0_33 wlq_0_8 wlq_0_15) rfl rfl rfl (by decide +kernel) ⟨Nat.le_of_ble_eq_true rfl, Nat.le_of_ble_eq_true rfl⟩) hK hDD hA0 hP hS 0 12 wm0 rfl rfl hl.1 (Nat.le_of_ble_eq_true rfl) (dk_at dkX12_ahead_8 10 rfl) (fun A111 H locs hw112 hP hS => ?_)
                            have ghw112 : q_X12_blame 1 z74 A76 A111 := hw112
                            obtain ⟨_, hI, hf113, hw112⟩ := hw112
                            have r_A111_0_8 : (0 : Int) ≤ (A111 0 8) ∧ (A111 0 8) ≤ 5 := hI 0 8
                            exact J252_110 _ _ _ _ (by exact Hd.mk (by  omega)) (fun uq ⟨mm1, mm10, hq⟩ => hk11 _ ⟨mm1, mm10, (u_d_X12_ahead_11 (Or.inr ⟨c109, ⟨A111, ghw112, hq⟩⟩))⟩) hI (fr.trans (fr.rf) hf113 rfl rfl) hP hS (lv_sub hl [0, 1, 2, 3, 4, 5] rfl)
                        refine lv_if_eq (tgt := 227) hx hb (dk_at dkX12_ahead_7 6 rfl) (by decide) (fun c93 => ?_) (fun c93 => ?_)
                        · have c93 : z20 = 0 := (i_eq0 (rb rz20 (by decide) (by decide))).mp c93
                          refine lv_aload_n hx hb (dk_at dkX12_ahead_7 14 rfl) rfl (lv_at hl 5 rfl) ?_
                          refine va_get (D := (dC, dI)) (ci := 12) (v := .ref (q 1)) (C := RX12) (T := TX12) (N := 85) hx hb hts hiX12 hown hK hP 0 wm0 rfl 0 (by decide) (hts _ (List.mem_cons_of_mem _ wlq_0_2)) (fun _ h9 => h9) rfl (dk_at dkX12_ahead_7 15 rfl) ?_
                          refine lv_iload_n hx hb (dk_at dkX12_ahead_8 0 rfl) rfl (lv_at hl 4 rfl) ?_
                          have a_A49_1 : A49 1 = A 1 := (hj48.1 1 (by decide) rfl).trans a_A19_1
                          have a_A52_1 : A52 1 = A 1 := by rw [hA52]; exact a_A49_1
                          have a_A66_1 : A66 1 = A 1 := by rw [hA66]; exact a_A52_1
                          have a_A76_1 : A76 1 = A 1 := (hj75.1 1 (by decide) rfl).trans a_A66_1
                          refine x_iald hx hb hK hP 1 1 wm1 rfl (by omega) (by decide) (dk_at dkX12_ahead_8 1 rfl) (fun z95 hz95 => ?_)
                          have rz95 : (0 : Int) ≤ z95 ∧ z95 ≤ 255 := by rw [hz95]; exact hI 1 _
                          have gz95 := Hd.mk hz95
                          have hz95 : z95 = A 1 (z74).toNat := hz95.trans (congrFun a_A76_1 _)
                          refine x_callSi (As := [.int (iI z95)]) (rest := []) ⟨hx, hb, hml, hown, hts⟩ (mc_X12_isDigit l dC dI cB cI cJ cZ cQ q _ z95 hI (rb rz95 (by decide) (by decide))) (va_cwS 1 hts (goodS wlq_0_29 wlq_0_30 wlq_0_8 wlq_0_19) rfl rfl rfl (by decide +kernel) ⟨Nat.le_of_ble_eq_true rfl, Nat.le_of_ble_eq_true rfl⟩) hK hDD hA0 hP hS rfl hl.1 (Nat.le_of_ble_eq_true rfl) (dk_at dkX12_ahead_8 2 rfl) (fun z96 A97 H locs hw98 hP hS => ?_)
                          obtain ⟨rfl, hw98⟩ := hw98
                          have ghw98 : q_X12_isDigit z95 A76 z96 := hw98
                          have hw98 := hw98.2
                          have rz96 : 0 ≤ z96 ∧ z96 ≤ 1 := hw98.1
                          replace hw98 := Hd.mk hw98.2
                          refine lv_if_eq (tgt := 323) hx hb (dk_at dkX12_ahead_8 3 rfl) (by decide) (fun c99 => ?_) (fun c99 => ?_)
                          · have c99 : z96 = 0 := (i_eq0 (rb rz96 (by decide) (by decide))).mp c99
                            refine lv_aload_n hx hb (dk_at dkX12_ahead_11 1 rfl) rfl (lv_at hl 5 rfl) ?_
                            refine lv_iload_n hx hb (dk_at dkX12_ahead_11 2 rfl) rfl (lv_at hl 4 rfl) ?_
                            refine x_put (D := (dC, dI)) (ci := 12) (v := .int (iI z74)) (ty := .int) (C := RX12) (T := TX12) (N := 85) hx hb hts hiX12 tyX12 tyX12_ok nmX12 hown hK hP hDD hS 0 wm0 rfl 5 (by decide) (hts _ (List.mem_cons_of_mem _ wlq_0_21)) (fun _ h9 => h9) rfl (by decide +kernel) rfl rfl (Nat.le_of_ble_eq_true rfl) (dk_at dkX12_ahead_11 3 rfl) (wf5 (v := z74)) (fun H locs hP hS => ?_)
                            have hI := hI.st (j := 0) (i := 5) (v := z74) (show (0 : Int) ≤ z74 ∧ z74 ≤ 1600 from (by omega))
                            obtain ⟨A100, hA100⟩ : ∃ A100 : St, A100 = (stA A76 0 5 z74) := ⟨_, rfl⟩
                            rw [← hA100] at hP hI
                            have e_A66_3 : A66 0 3 = z62 := by rw [hA66]; rfl
                            have e_A76_3 : A76 0 3 = z62 := (hj75.2 3 rfl).trans e_A66_3
                            have e_A100_3 : A100 0 3 = z62 := by rw [hA100]; exact e_A76_3
                            have e_A100_4 : A100 0 4 = z1 := by rw [hA100]; exact e_A76_4
                            have e_A100_5 : A100 0 5 = z74 := by rw [hA100]; rfl
                            have e_A100_7 : A100 0 7 = (A76 0 7) := by rw [hA100]; exact rfl
                            have e_A100_8 : A100 0 8 = (A76 0 8) := by rw [hA100]; exact rfl
                            have a_A100_1 : A100 1 = A 1 := by rw [hA100]; exact a_A76_1
                            have hpost : A 0 5 ≤ A100 0 4 ∧ A100 0 4 ≤ A100 0 5 ∧ LX A100 ∧ (A100 0 8 = 0 → A 0 8 = 0) ∧ (A100 0 8 = 0 → A100 0 3 = 1 → 1 ≤ A100 0 4 → (A 1 (A100 0 4 - 1).toNat < 97 ∨ 122 < A 1 (A100 0 4 - 1).toNat)) := by
                              rcases (show z20 = 0 ∨ z20 = 1 by omega) with hl | hl
                              · have g1 := f65.out
                                have gs : z62 = 2 := by omega
                                clear g1
                                have g2 := f88.out hl
                                have gx2 := hw98.out
                                have gn : 1 ≤ z73 := by omega
                                clear g2 gx2
                                have g8 : A100 0 8 = 0 → A 0 8 = 0 ∧ (z20 = 1 → 1 ≤ z1 → (A 1 (z1 - 1).toNat < 97 ∨ 122 < A 1 (z1 - 1).toNat)) := fun h0 => by
                                  have h9 := f86.out (by omega)
                                  have h10 := f50.out (by omega)
                                  exact h10
                                have hLX : LX A100 := LX.mk' (A := A) (s := z62) (a := z1) (e := z74) (w := (A76 0 7)) a_A100_1 e_A100_3 e_A100_4 e_A100_5 e_A100_7 (by omega) (by intro h; omega) (by intro h h'; omega)
                                refine ⟨by omega, by omega, hLX, fun h0 => (g8 h0).1, ?_⟩
                                rw [e_A100_4]
                                intro h0 h1 h2
                                exact (g8 h0).2 (by omega) h2
                              · have g1 := f65.out
                                have gs : z62 = 1 := by omega
                                clear g1
                                have g2 := f87.out hl
                                have gx2 := hw98.out
                                have gn : 1 ≤ z73 := by omega
                                have g3 := f89.out hl
                                have gl : 97 ≤ A 1 (z74 - 1).toNat ∧ A 1 (z74 - 1).toNat ≤ 122 := by omega
                                clear g2 gx2
                                have g8 : A100 0 8 = 0 → A 0 8 = 0 ∧ (z20 = 1 → 1 ≤ z1 → (A 1 (z1 - 1).toNat < 97 ∨ 122 < A 1 (z1 - 1).toNat)) := fun h0 => by
                                  have h9 := f86.out (by omega)
                                  have h10 := f50.out (by omega)
                                  exact h10
                                have hLX : LX A100 := LX.mk' (A := A) (s := z62) (a := z1) (e := z74) (w := (A76 0 7)) a_A100_1 e_A100_3 e_A100_4 e_A100_5 e_A100_7 (by omega) (by intro h; exact gl) (by intro h h'; omega)
                                refine ⟨by omega, by omega, hLX, fun h0 => (g8 h0).1, ?_⟩
                                rw [e_A100_4]
                                intro h0 h1 h2
                                exact (g8 h0).2 (by omega) h2
                            exact RET _ _ _ _ _ ⟨hk10 _ ⟨0, 0 + 1, (u_d_X12_ahead_10 ⟨gI90.out, ⟨f81, ⟨f83, (Or.inr ⟨c91, (Or.inl ⟨c93, ⟨z95, gz95.out, ⟨z96, ghw98, (Or.inl ⟨c99, ⟨A100, hA100, rfl⟩⟩)⟩⟩⟩)⟩)⟩⟩⟩)⟩, hI, fr_def hA100 (fr.sf (fr.trans (fr_def hA66 (fr.sf (fr_def hA52 (fr.sf (fr.sf (fr.sf (fr.sf (fr.trans (fr_def hA19 (fr.sf (fr.sf (fr.sf (fr.rf) rfl) rfl) rfl)) hj48 rfl rfl) rfl) rfl) rfl) rfl)) rfl)) hj75 rfl rfl) rfl), hpost⟩ hP hS (dk_at dkX12_ahead_11 4 rfl)
                          · have c99 : ¬ z96 = 0 := mt (i_eq0 (rb rz96 (by decide) (by decide))).mpr c99
                            exact J239_94 _ _ _ (by exact Hd.mk (by  omega)) (fun uq ⟨mm1, mm10, hq⟩ => hk10 _ ⟨mm1, mm10 + 1, (u_d_X12_ahead_10 ⟨gI90.out, ⟨f81, ⟨f83, (Or.inr ⟨c91, (Or.inl ⟨c93, ⟨z95, gz95.out, ⟨z96, ghw98, (Or.inr ⟨c99, hq⟩)⟩⟩⟩)⟩)⟩⟩⟩)⟩) hP hS (lv_sub hl [0, 1, 2, 3, 4, 5] rfl)
                        · have c93 : ¬ z20 = 0 := mt (i_eq0 (rb rz20 (by decide) (by decide))).mpr c93
                          refine lv_aload_n hx hb (dk_at dkX12_ahead_7 7 rfl) rfl (lv_at hl 5 rfl) ?_
                          refine va_get (D := (dC, dI)) (ci := 12) (v := .ref (q 1)) (C := RX12) (T := TX12) (N := 85) hx hb hts hiX12 hown hK hP 0 wm0 rfl 0 (by decide) (hts _ (List.mem_cons_of_mem _ wlq_0_2)) (fun _ h9 => h9) rfl (dk_at dkX12_ahead_7 8 rfl) ?_
                          refine lv_iload_n hx hb (dk_at dkX12_ahead_7 9 rfl) rfl (lv_at hl 4 rfl) ?_
                          have a_A49_1 : A49 1 = A 1 := (hj48.1 1 (by decide) rfl).trans a_A19_1
                          have a_A52_1 : A52 1 = A 1 := by rw [hA52]; exact a_A49_1
                          have a_A66_1 : A66 1 = A 1 := by rw [hA66]; exact a_A52_1
                          have a_A76_1 : A76 1 = A 1 := (hj75.1 1 (by decide) rfl).trans a_A66_1
                          refine x_iald hx hb hK hP 1 1 wm1 rfl (by omega) (by decide) (dk_at dkX12_ahead_7 10 rfl) (fun z101 hz101 => ?_)
                          have rz101 : (0 : Int) ≤ z101 ∧ z101 ≤ 255 := by rw [hz101]; exact hI 1 _
                          have gz101 := Hd.mk hz101
                          have hz101 : z101 = A 1 (z74).toNat := hz101.trans (congrFun a_A76_1 _)
                          refine x_callSi (As := [.int (iI z101)]) (rest := []) ⟨hx, hb, hml, hown, hts⟩ (mc_X12_isLetter l dC dI cB cI cJ cZ cQ q _ z101 hI (rb rz101 (by decide) (by decide))) (va_cwS 1 hts (goodS wlq_0_27 wlq_0_28 wlq_0_8 wlq_0_18) rfl rfl rfl (by decide +kernel) ⟨Nat.le_of_ble_eq_true rfl, Nat.le_of_ble_eq_true rfl⟩) hK hDD hA0 hP hS rfl hl.1 (Nat.le_of_ble_eq_true rfl) (dk_at dkX12_ahead_7 11 rfl) (fun z102 A103 H locs hw104 hP hS => ?_)
                          obtain ⟨rfl, hw104⟩ := hw104
                          have ghw104 : q_X12_isLetter z101 A76 z102 := hw104
                          have hw104 := hw104.2
                          have rz102 : 0 ≤ z102 ∧ z102 ≤ 1 := hw104.1
                          replace hw104 := Hd.mk hw104.2
                          refine lv_if_eq (tgt := 323) hx hb (dk_at dkX12_ahead_7 12 rfl) (by decide) (fun c105 => ?_) (fun c105 => ?_)
                          · have c105 : z102 = 0 := (i_eq0 (rb rz102 (by decide) (by decide))).mp c105
                            refine lv_aload_n hx hb (dk_at dkX12_ahead_11 1 rfl) rfl (lv_at hl 5 rfl) ?_
                            refine lv_iload_n hx hb (dk_at dkX12_ahead_11 2 rfl) rfl (lv_at hl 4 rfl) ?_
                            refine x_put (D := (dC, dI)) (ci := 12) (v := .int (iI z74)) (ty := .int) (C := RX12) (T := TX12) (N := 85) hx hb hts hiX12 tyX12 tyX12_ok nmX12 hown hK hP hDD hS 0 wm0 rfl 5 (by decide) (hts _ (List.mem_cons_of_mem _ wlq_0_21)) (fun _ h9 => h9) rfl (by decide +kernel) rfl rfl (Nat.le_of_ble_eq_true rfl) (dk_at dkX12_ahead_11 3 rfl) (wf5 (v := z74)) (fun H locs hP hS => ?_)
                            have hI := hI.st (j := 0) (i := 5) (v := z74) (show (0 : Int) ≤ z74 ∧ z74 ≤ 1600 from (by omega))
                            obtain ⟨A106, hA106⟩ : ∃ A106 : St, A106 = (stA A76 0 5 z74) := ⟨_, rfl⟩
                            rw [← hA106] at hP hI
                            have e_A66_3 : A66 0 3 = z62 := by rw [hA66]; rfl
                            have e_A76_3 : A76 0 3 = z62 := (hj75.2 3 rfl).trans e_A66_3
                            have e_A106_3 : A106 0 3 = z62 := by rw [hA106]; exact e_A76_3
                            have e_A106_4 : A106 0 4 = z1 := by rw [hA106]; exact e_A76_4
                            have e_A106_5 : A106 0 5 = z74 := by rw [hA106]; rfl
                            have e_A106_7 : A106 0 7 = (A76 0 7) := by rw [hA106]; exact rfl
                            have e_A106_8 : A106 0 8 = (A76 0 8) := by rw [hA106]; exact rfl
                            have a_A106_1 : A106 1 = A 1 := by rw [hA106]; exact a_A76_1
                            have hpost : A 0 5 ≤ A106 0 4 ∧ A106 0 4 ≤ A106 0 5 ∧ LX A106 ∧ (A106 0 8 = 0 → A 0 8 = 0) ∧ (A106 0 8 = 0 → A106 0 3 = 1 → 1 ≤ A106 0 4 → (A 1 (A106 0 4 - 1).toNat < 97 ∨ 122 < A 1 (A106 0 4 - 1).toNat)) := by
                              rcases (show z20 = 0 ∨ z20 = 1 by omega) with hl | hl
                              · have g1 := f65.out
                                have gs : z62 = 2 := by omega
                                clear g1
                                have g2 := f88.out hl
                                have gx1 := hw104.out
                                have gn : 1 ≤ z73 := by omega
                                clear g2 gx1
                                have g8 : A106 0 8 = 0 → A 0 8 = 0 ∧ (z20 = 1 → 1 ≤ z1 → (A 1 (z1 - 1).toNat < 97 ∨ 122 < A 1 (z1 - 1).toNat)) := fun h0 => by
                                  have h9 := f86.out (by omega)
                                  have h10 := f50.out (by omega)
                                  exact h10
                                have hLX : LX A106 := LX.mk' (A := A) (s := z62) (a := z1) (e := z74) (w := (A76 0 7)) a_A106_1 e_A106_3 e_A106_4 e_A106_5 e_A106_7 (by omega) (by intro h; omega) (by intro h h'; omega)
                                refine ⟨by omega, by omega, hLX, fun h0 => (g8 h0).1, ?_⟩
                                rw [e_A106_4]
                                intro h0 h1 h2
                                exact (g8 h0).2 (by omega) h2
                              · have g1 := f65.out
                                have gs : z62 = 1 := by omega
                                clear g1
                                have g2 := f87.out hl
                                have gx1 := hw104.out
                                have gn : 1 ≤ z73 := by omega
                                have g3 := f89.out hl
                                have gl : 97 ≤ A 1 (z74 - 1).toNat ∧ A 1 (z74 - 1).toNat ≤ 122 := by omega
                                clear g2 gx1
                                have g8 : A106 0 8 = 0 → A 0 8 = 0 ∧ (z20 = 1 → 1 ≤ z1 → (A 1 (z1 - 1).toNat < 97 ∨ 122 < A 1 (z1 - 1).toNat)) := fun h0 => by
                                  have h9 := f86.out (by omega)
                                  have h10 := f50.out (by omega)
                                  exact h10
                                have hLX : LX A106 := LX.mk' (A := A) (s := z62) (a := z1) (e := z74) (w := (A76 0 7)) a_A106_1 e_A106_3 e_A106_4 e_A106_5 e_A106_7 (by omega) (by intro h; exact gl) (by intro h h'; omega)
                                refine ⟨by omega, by omega, hLX, fun h0 => (g8 h0).1, ?_⟩
                                rw [e_A106_4]
                                intro h0 h1 h2
                                exact (g8 h0).2 (by omega) h2
                            exact RET _ _ _ _ _ ⟨hk10 _ ⟨0, 0 + 1, (u_d_X12_ahead_10 ⟨gI90.out, ⟨f81, ⟨f83, (Or.inr ⟨c91, (Or.inr ⟨c93, ⟨z101, gz101.out, ⟨z102, ghw104, (Or.inl ⟨c105, ⟨A106, hA106, rfl⟩⟩)⟩⟩⟩)⟩)⟩⟩⟩)⟩, hI, fr_def hA106 (fr.sf (fr.trans (fr_def hA66 (fr.sf (fr_def hA52 (fr.sf (fr.sf (fr.sf (fr.sf (fr.trans (fr_def hA19 (fr.sf (fr.sf (fr.sf (fr.rf) rfl) rfl) rfl)) hj48 rfl rfl) rfl) rfl) rfl) rfl)) rfl)) hj75 rfl rfl) rfl), hpost⟩ hP hS (dk_at dkX12_ahead_11 4 rfl)
                          · have c105 : ¬ z102 = 0 := mt (i_eq0 (rb rz102 (by decide) (by decide))).mpr c105
                            refine lv_goto (tgt := 239) hx hb (dk_at dkX12_ahead_7 13 rfl) (by decide) ?_
                            exact J239_94 _ _ _ (by exact Hd.mk (by have g0 := hw104.out;  omega)) (fun uq ⟨mm1, mm10, hq⟩ => hk10 _ ⟨mm1, mm10 + 1, (u_d_X12_ahead_10 ⟨gI90.out, ⟨f81, ⟨f83, (Or.inr ⟨c91, (Or.inr ⟨c93, ⟨z101, gz101.out, ⟨z102, ghw104, (Or.inr ⟨c105, hq⟩)⟩⟩⟩)⟩)⟩⟩⟩)⟩) hP hS (lv_sub hl [0, 1, 2, 3, 4, 5] rfl)
                  exact L200_77 _ 0 z1 _ _ _ _ (by omega) (by omega) (by omega) (by omega) (by omega) (by omega) (by exact Hd.mk (by  omega)) (by exact Hd.mk (by have g := hw22.out; omega)) (by exact Hd.mk (by have g0 := hw26.out; have g1 := f59.out;  omega)) (by exact Hd.mk (by  omega)) (fun uq ⟨mm1, mm10, hq⟩ => hk9 _ ⟨mm1, (u_d_X12_ahead_9 ⟨f71, ⟨mm10, hq⟩⟩)⟩) rfl hI (fr.rf) hP hS (lv_sub hl [0, 1, 2, 3, 4, 5] rfl)
                refine lv_if_eq (tgt := 194) hx hb (dk_at dkX12_ahead_6 10 rfl) (by decide) (fun c67 => ?_) (fun c67 => ?_)
                · have c67 : z20 = 0 := (i_eq0 (rb rz20 (by decide) (by decide))).mp c67
                  refine lv_iconst (v := iI 4) hx hb (dk_at dkX12_ahead_6 13 rfl) (by decide +kernel) ?_
                  exact J195_68 4 _ _ _ (by omega) (by exact Hd.mk (by  omega)) (fun uq ⟨mm1, hq⟩ => hk8 _ ⟨mm1, (u_d_X12_ahead_8 ⟨f64, ⟨A66, hA66, (Or.inl ⟨c67, hq⟩)⟩⟩)⟩) hP hS (lv_sub hl [0, 1, 2, 3] rfl)
                · have c67 : ¬ z20 = 0 := mt (i_eq0 (rb rz20 (by decide) (by decide))).mpr c67
                  refine lv_bipush (v := iI 6) hx hb (dk_at dkX12_ahead_6 11 rfl) (by decide +kernel) ?_
                  refine lv_goto (tgt := 195) hx hb (dk_at dkX12_ahead_6 12 rfl) (by decide) ?_
                  exact J195_68 6 _ _ _ (by omega) (by exact Hd.mk (by  omega)) (fun uq ⟨mm1, hq⟩ => hk8 _ ⟨mm1, (u_d_X12_ahead_8 ⟨f64, ⟨A66, hA66, (Or.inr ⟨c67, hq⟩)⟩⟩)⟩) hP hS (lv_sub hl [0, 1, 2, 3] rfl)
              refine lv_if_eq (tgt := 181) hx hb (dk_at dkX12_ahead_6 4 rfl) (by decide) (fun c60 => ?_) (fun c60 => ?_)
              · have c60 : z20 = 0 := (i_eq0 (rb rz20 (by decide) (by decide))).mp c60
                refine lv_iconst (v := iI 2) hx hb (dk_at dkX12_ahead_6 7 rfl) (by decide +kernel) ?_
                exact J182_61 2 _ _ _ (by omega) (by exact Hd.mk (by  omega)) (fun uq ⟨mm1, hq⟩ => hk7 _ ⟨mm1, (u_d_X12_ahead_7 (Or.inl ⟨c60, hq⟩))⟩) hP hS (lv_sub hl [0, 1, 2, 3] rfl)
              · have c60 : ¬ z20 = 0 := mt (i_eq0 (rb rz20 (by decide) (by decide))).mpr c60
                refine lv_iconst (v := iI 1) hx hb (dk_at dkX12_ahead_6 5 rfl) (by decide +kernel) ?_
                refine lv_goto (tgt := 182) hx hb (dk_at dkX12_ahead_6 6 rfl) (by decide) ?_
                exact J182_61 1 _ _ _ (by omega) (by exact Hd.mk (by  omega)) (fun uq ⟨mm1, hq⟩ => hk7 _ ⟨mm1, (u_d_X12_ahead_7 (Or.inr ⟨c60, hq⟩))⟩) hP hS (lv_sub hl [0, 1, 2, 3] rfl)
            refine lv_if_ne (tgt := 172) hx hb (dk_at dkX12_ahead_5 8 rfl) (by decide) (fun c53 => ?_) (fun c53 => ?_)
            · have c53 : ¬ z20 = 0 := mt (i_eq0 (rb rz20 (by decide) (by decide))).mpr c53
              exact J172_54 _ _ _ (by exact Hd.mk (by  omega)) (fun uq ⟨mm1, hq⟩ => hk6 _ ⟨mm1, (u_d_X12_ahead_6 ⟨gI51.out, ⟨A52, hA52, (Or.inl ⟨c53, hq⟩)⟩⟩)⟩) hP hS (lv_sub hl [0, 1, 2, 3] rfl)
            · have c53 : z20 = 0 := (i_eq0 (rb rz20 (by decide) (by decide))).mp c53
              refine lv_iload_n hx hb (dk_at dkX12_ahead_5 9 rfl) rfl (lv_at hl 0 rfl) ?_
              refine lv_if_ne (tgt := 172) hx hb (dk_at dkX12_ahead_5 10 rfl) (by decide) (fun c55 => ?_) (fun c55 => ?_)
              · have c55 : ¬ z24 = 0 := mt (i_eq0 (rb rz24 (by decide) (by decide))).mpr c55
                exact J172_54 _ _ _ (by exact Hd.mk (by  omega)) (fun uq ⟨mm1, hq⟩ => hk6 _ ⟨mm1, (u_d_X12_ahead_6 ⟨gI51.out, ⟨A52, hA52, (Or.inr ⟨c53, (Or.inl ⟨c55, hq⟩)⟩)⟩⟩)⟩) hP hS (lv_sub hl [0, 1, 2, 3] rfl)
              · have c55 : z24 = 0 := (i_eq0 (rb rz24 (by decide) (by decide))).mp c55
                refine lv_aload_n hx hb (dk_at dkX12_ahead_5 11 rfl) rfl (lv_at hl 3 rfl) ?_
                refine lv_aload_n hx hb (dk_at dkX12_ahead_5 12 rfl) rfl (lv_at hl 3 rfl) ?_
                refine va_get (D := (dC, dI)) (ci := 12) (v := .ref (q 1)) (C := RX12) (T := TX12) (N := 85) hx hb hts hiX12 hown hK hP 0 wm0 rfl 0 (by decide) (hts _ (List.mem_cons_of_mem _ wlq_0_2)) (fun _ h9 => h9) rfl (dk_at dkX12_ahead_5 13 rfl) ?_
                refine lv_iload_n hx hb (dk_at dkX12_ahead_5 14 rfl) rfl (lv_at hl 2 rfl) ?_
                have a_A49_1 : A49 1 = A 1 := (hj48.1 1 (by decide) rfl).trans a_A19_1
                have a_A52_1 : A52 1 = A 1 := by rw [hA52]; exact a_A49_1
                refine x_iald hx hb hK hP 1 1 wm1 rfl (by omega) (by decide) (dk_at dkX12_ahead_5 15 rfl) (fun z56 hz56 => ?_)
                have rz56 : (0 : Int) ≤ z56 ∧ z56 ≤ 255 := by rw [hz56]; exact hI 1 _
                have gz56 := Hd.mk hz56
                have hz56 : z56 = A 1 (z1).toNat := hz56.trans (congrFun a_A52_1 _)
                have ez56 : z56 = z18 := hz56.trans hz18.symm
                refine x_put (D := (dC, dI)) (ci := 12) (v := .int (iI z56)) (ty := .int) (C := RX12) (T := TX12) (N := 85) hx hb hts hiX12 tyX12 tyX12_ok nmX12 hown hK hP hDD hS 0 wm0 rfl 6 (by decide) (hts _ (List.mem_cons_of_mem _ wlq_0_25)) (fun _ h9 => h9) rfl (by decide +kernel) rfl rfl (Nat.le_of_ble_eq_true rfl) (dk_at dkX12_ahead_6 0 rfl) (wf6 (v := z56)) (fun H locs hP hS => ?_)
                have hI := hI.st (j := 0) (i := 6) (v := z56) (show (-2147483648 : Int) ≤ z56 ∧ z56 ≤ 2147483647 from (by omega))
                obtain ⟨A57, hA57⟩ : ∃ A57 : St, A57 = (stA A52 0 6 z56) := ⟨_, rfl⟩
                rw [← hA57] at hP hI
                have e_A52_3 : A52 0 3 = 3 := by rw [hA52]; rfl
                have e_A57_3 : A57 0 3 = 3 := by rw [hA57]; exact e_A52_3
                have e_A19_4 : A19 0 4 = z1 := by rw [hA19]; rfl
                have e_A49_4 : A49 0 4 = z1 := (hj48.2 4 rfl).trans e_A19_4
                have e_A52_4 : A52 0 4 = z1 := by rw [hA52]; exact e_A49_4
                have e_A57_4 : A57 0 4 = z1 := by rw [hA57]; exact e_A52_4
                have e_A52_5 : A52 0 5 = z1 + 1 := by rw [hA52]; rfl
                have e_A57_5 : A57 0 5 = z1 + 1 := by rw [hA57]; exact e_A52_5
                have e_A52_7 : A52 0 7 = 0 := by rw [hA52]; rfl
                have e_A57_7 : A57 0 7 = 0 := by rw [hA57]; exact e_A52_7
                have e_A52_8 : A52 0 8 = (A49 0 8) := by rw [hA52]; exact rfl
                have e_A57_8 : A57 0 8 = (A49 0 8) := by rw [hA57]; exact e_A52_8
                have r_A49_0_8 : (0 : Int) ≤ (A49 0 8) ∧ (A49 0 8) ≤ 5 := by rw [← e_A57_8]; exact hI 0 8
                have a_A57_1 : A57 1 = A 1 := by rw [hA57]; exact a_A52_1
                have hpost : A 0 5 ≤ A57 0 4 ∧ A57 0 4 ≤ A57 0 5 ∧ LX A57 ∧ (A57 0 8 = 0 → A 0 8 = 0) ∧ (A57 0 8 = 0 → A57 0 3 = 1 → 1 ≤ A57 0 4 → (A 1 (A57 0 4 - 1).toNat < 97 ∨ 122 < A 1 (A57 0 4 - 1).toNat)) := by
                  have hLX : LX A57 := LX.mk' (A := A) (s := 3) (a := z1) (e := z1 + 1) (w := 0) a_A57_1 e_A57_3 e_A57_4 e_A57_5 e_A57_7 (by omega) (by intro h; omega) (by intro h h'; omega)
                  exact ⟨by omega, by omega, hLX, fun h0 => (f50.out (by omega)).1, fun _ h1 => absurd h1 (by omega)⟩
                exact RET _ _ _ _ _ ⟨hk6 _ ⟨0, (u_d_X12_ahead_6 ⟨gI51.out, ⟨A52, hA52, (Or.inr ⟨c53, (Or.inr ⟨c55, ⟨z56, gz56.out, ⟨A57, hA57, rfl⟩⟩⟩)⟩)⟩⟩)⟩, hI, fr_def hA57 (fr.sf (fr_def hA52 (fr.sf (fr.sf (fr.sf (fr.sf (fr.trans (fr_def hA19 (fr.sf (fr.sf (fr.sf (fr.rf) rfl) rfl) rfl)) hj48 rfl rfl) rfl) rfl) rfl) rfl)) rfl), hpost⟩ hP hS (dk_at dkX12_ahead_6 1 rfl)
          have J93_28 : ∀ (H : Heap) (locs : List Loc) (ls : Array Slot), (∀ (u : St), (∃ mm1 : Nat, (d_X12_ahead_4 z1 z20 z24 A A19 u)) → r_X12_ahead A u) → va_P (dC, dI) vwCl (WM cI cJ cZ q A19) H → va_S AS s.heap H locs → lv_has ls 6 [(3, .int (iI z24)), (2, .int (iI z20)), (1, .int (iI z1)), (0, .ref (q 0))] → W p l e (headSpec ws_mb_X12_ahead ({ frames := 1, cells := 0, slots := 0, locals := 22 } : Room)).room s m [.ref (q 0)].toArray below meth c H locs 0 0 Q (F0 m 93 ls []) := by
            intro H locs ls hk4 hP hS hl
            refine lv_iload_n hx hb (dk_at dkX12_ahead_3 3 rfl) rfl (lv_at hl 2 rfl) ?_
            refine lv_if_le (tgt := 131) hx hb (dk_at dkX12_ahead_3 4 rfl) (by decide) (fun c32 => ?_) (fun c32 => ?_)
            · have c32 : z1 ≤ 0 := (i_le0 (rb f7 (by decide) (by decide))).mp c32
              have e_A19_8 : A19 0 8 = (A 0 8) := by rw [hA19]; exact rfl
              have r_A_0_8 : (0 : Int) ≤ (A 0 8) ∧ (A 0 8) ≤ 5 := by rw [← e_A19_8]; exact hI 0 8
              exact J131_29 _ _ _ _ (by exact Hd.mk (by  omega)) (fun uq ⟨mm1, hq⟩ => hk4 _ ⟨mm1, (u_d_X12_ahead_4 (Or.inl ⟨c32, hq⟩))⟩) hI (fr.rf) hP hS (lv_sub hl [0, 1, 2, 3] rfl)
            · have c32 : ¬ z1 ≤ 0 := mt (i_le0 (rb f7 (by decide) (by decide))).mpr c32
              refine lv_aload_n hx hb (dk_at dkX12_ahead_3 5 rfl) rfl (lv_at hl 3 rfl) ?_
              refine va_get (D := (dC, dI)) (ci := 12) (v := .ref (q 1)) (C := RX12) (T := TX12) (N := 85) hx hb hts hiX12 hown hK hP 0 wm0 rfl 0 (by decide) (hts _ (List.mem_cons_of_mem _ wlq_0_2)) (fun _ h9 => h9) rfl (dk_at dkX12_ahead_3 6 rfl) ?_
              refine lv_iload_n hx hb (dk_at dkX12_ahead_3 7 rfl) rfl (lv_at hl 2 rfl) ?_
              refine lv_iconst (v := iI 1) hx hb (dk_at dkX12_ahead_3 8 rfl) (by decide +kernel) ?_
              refine x_subv (v := z1 - 1) hx hb (dk_at dkX12_ahead_3 9 rfl) (by omega) ?_
              refine x_iald hx hb hK hP 1 1 wm1 rfl (by omega) (by decide) (dk_at dkX12_ahead_3 10 rfl) (fun z33 hz33 => ?_)
              have rz33 : (0 : Int) ≤ z33 ∧ z33 ≤ 255 := by rw [hz33]; exact hI 1 _
              have gz33 := Hd.mk hz33
              have hz33 : z33 = A 1 (z1 - 1).toNat := hz33.trans (congrFun a_A19_1 _)
              refine x_callSi (As := [.int (iI z33)]) (rest := []) ⟨hx, hb, hml, hown, hts⟩ (mc_X12_isLetter l dC dI cB cI cJ cZ cQ q _ z33 hI (rb rz33 (by decide) (by decide))) (va_cwS 1 hts (goodS wlq_0_27 wlq_0_28 wlq_0_8 wlq_0_18) rfl rfl rfl (by decide +kernel) ⟨Nat.le_of_ble_eq_true rfl, Nat.le_of_ble_eq_true rfl⟩) hK hDD hA0 hP hS rfl hl.1 (Nat.le_of_ble_eq_true rfl) (dk_at dkX12_ahead_3 11 rfl) (fun z34 A35 H locs hw36 hP hS => ?_)
              obtain ⟨rfl, hw36⟩ := hw36
              have ghw36 : q_X12_isLetter z33 A19 z34 := hw36
              have hw36 := hw36.2
              have rz34 : 0 ≤ z34 ∧ z34 ≤ 1 := hw36.1
              replace hw36 := Hd.mk hw36.2
              have J125_38 : ∀ (H : Heap) (locs : List Loc) (ls : Array Slot), (∀ (u : St), (∃ mm1 : Nat, (d_X12_ahead_5 z1 z20 z24 A A19 u)) → r_X12_ahead A u) → va_P (dC, dI) vwCl (WM cI cJ cZ q A19) H → va_S AS s.heap H locs → lv_has ls 6 [(3, .int (iI z24)), (2, .int (iI z20)), (1, .int (iI z1)), (0, .ref (q 0))] → W p l e (headSpec ws_mb_X12_ahead ({ frames := 1, cells := 0, slots := 0, locals := 22 } : Room)).room s m [.ref (q 0)].toArray below meth c H locs 0 0 Q (F0 m 125 ls []) := by
                intro H locs ls hk5 hP hS hl
                refine lv_aload_n hx hb (dk_at dkX12_ahead_4 5 rfl) rfl (lv_at hl 3 rfl) ?_
                refine lv_iconst (v := iI 1) hx hb (dk_at dkX12_ahead_4 6 rfl) (by decide +kernel) ?_
                refine lv_iload_n hx hb (dk_at dkX12_ahead_4 7 rfl) rfl (lv_at hl 2 rfl) ?_
                refine x_callv (As := [.int (iI 1), .int (iI z1)]) (rest := []) ⟨hx, hb, hml, hown, hts⟩ (mc_X12_blame l dC dI cB cI cJ cZ cQ q _ 1 z1 hI ⟨by decide, by decide⟩ f7) (cwV 2 hts (goodV wlq_0_31 wlq_0_32 wlq_0_33 wlq_0_8 wlq_0_15) rfl rfl rfl (by decide +kernel) ⟨Nat.le_of_ble_eq_true rfl, Nat.le_of_ble_eq_true rfl⟩) hK hDD hA0 hP hS 0 12 wm0 rfl rfl hl.1 (Nat.le_of_ble_eq_true rfl) (dk_at dkX12_ahead_4 8 rfl) (fun A45 H locs hw46 hP hS => ?_)
                have ghw46 : q_X12_blame 1 z1 A19 A45 := hw46
                obtain ⟨_, hI, hf47, hw46⟩ := hw46
                have r_A45_0_8 : (0 : Int) ≤ (A45 0 8) ∧ (A45 0 8) ≤ 5 := hI 0 8
                exact J131_29 _ _ _ _ (by exact Hd.mk (by have g0 := hw36.out;  omega)) (fun uq ⟨mm1, hq⟩ => hk5 _ ⟨mm1, (u_d_X12_ahead_5 ⟨A45, ghw46, hq⟩)⟩) hI (fr.trans (fr.rf) hf47 rfl rfl) hP hS (lv_sub hl [0, 1, 2, 3] rfl)
              refine lv_if_ne (tgt := 125) hx hb (dk_at dkX12_ahead_3 12 rfl) (by decide) (fun c37 => ?_) (fun c37 => ?_)
              · have c37 : ¬ z34 = 0 := mt (i_eq0 (rb rz34 (by decide) (by decide))).mpr c37
                exact J125_38 _ _ _ (fun uq ⟨mm1, hq⟩ => hk4 _ ⟨mm1, (u_d_X12_ahead_4 (Or.inr ⟨c32, ⟨z33, gz33.out, ⟨z34, ghw36, (Or.inl ⟨c37, hq⟩)⟩⟩⟩))⟩) hP hS (lv_sub hl [0, 1, 2, 3] rfl)
              · have c37 : z34 = 0 := (i_eq0 (rb rz34 (by decide) (by decide))).mp c37
                refine lv_aload_n hx hb (dk_at dkX12_ahead_3 13 rfl) rfl (lv_at hl 3 rfl) ?_
                refine va_get (D := (dC, dI)) (ci := 12) (v := .ref (q 1)) (C := RX12) (T := TX12) (N := 85) hx hb hts hiX12 hown hK hP 0 wm0 rfl 0 (by decide) (hts _ (List.mem_cons_of_mem _ wlq_0_2)) (fun _ h9 => h9) rfl (dk_at dkX12_ahead_3 14 rfl) ?_
                refine lv_iload_n hx hb (dk_at dkX12_ahead_3 15 rfl) rfl (lv_at hl 2 rfl) ?_
                refine lv_iconst (v := iI 1) hx hb (dk_at dkX12_ahead_4 0 rfl) (by decide +kernel) ?_
                refine x_subv (v := z1 - 1) hx hb (dk_at dkX12_ahead_4 1 rfl) (by omega) ?_
                refine x_iald hx hb hK hP 1 1 wm1 rfl (by omega) (by decide) (dk_at dkX12_ahead_4 2 rfl) (fun z39 hz39 => ?_)
                have rz39 : (0 : Int) ≤ z39 ∧ z39 ≤ 255 := by rw [hz39]; exact hI 1 _
                have gz39 := Hd.mk hz39
                have hz39 : z39 = A 1 (z1 - 1).toNat := hz39.trans (congrFun a_A19_1 _)
                have ez39 : z39 = z33 := hz39.trans hz33.symm
                refine x_callSi (As := [.int (iI z39)]) (rest := []) ⟨hx, hb, hml, hown, hts⟩ (mc_X12_isDigit l dC dI cB cI cJ cZ cQ q _ z39 hI (rb rz39 (by decide) (by decide))) (va_cwS 1 hts (goodS wlq_0_29 wlq_0_30 wlq_0_8 wlq_0_19) rfl rfl rfl (by decide +kernel) ⟨Nat.le_of_ble_eq_true rfl, Nat.le_of_ble_eq_true rfl⟩) hK hDD hA0 hP hS rfl hl.1 (Nat.le_of_ble_eq_true rfl) (dk_at dkX12_ahead_4 3 rfl) (fun z40 A41 H locs hw42 hP hS => ?_)
                obtain ⟨rfl, hw42⟩ := hw42
                have ghw42 : q_X12_isDigit z39 A19 z40 := hw42
                have hw42 := hw42.2
                have rz40 : 0 ≤ z40 ∧ z40 ≤ 1 := hw42.1
                replace hw42 := Hd.mk hw42.2
                refine lv_if_eq (tgt := 131) hx hb (dk_at dkX12_ahead_4 4 rfl) (by decide) (fun c43 => ?_) (fun c43 => ?_)
                · have c43 : z40 = 0 := (i_eq0 (rb rz40 (by decide) (by decide))).mp c43
                  have e_A19_8 : A19 0 8 = (A 0 8) := by rw [hA19]; exact rfl
                  have r_A_0_8 : (0 : Int) ≤ (A 0 8) ∧ (A 0 8) ≤ 5 := by rw [← e_A19_8]; exact hI 0 8
                  exact J131_29 _ _ _ _ (by exact Hd.mk (by have g0 := hw36.out;  omega)) (fun uq ⟨mm1, hq⟩ => hk4 _ ⟨mm1, (u_d_X12_ahead_4 (Or.inr ⟨c32, ⟨z33, gz33.out, ⟨z34, ghw36, (Or.inr ⟨c37, ⟨z39, gz39.out, ⟨z40, ghw42, (Or.inl ⟨c43, hq⟩)⟩⟩⟩)⟩⟩⟩))⟩) hI (fr.rf) hP hS (lv_sub hl [0, 1, 2, 3] rfl)
                · have c43 : ¬ z40 = 0 := mt (i_eq0 (rb rz40 (by decide) (by decide))).mpr c43
                  exact J125_38 _ _ _ (fun uq ⟨mm1, hq⟩ => hk4 _ ⟨mm1, (u_d_X12_ahead_4 (Or.inr ⟨c32, ⟨z33, gz33.out, ⟨z34, ghw36, (Or.inr ⟨c37, ⟨z39, gz39.out, ⟨z40, ghw42, (Or.inr ⟨c43, hq⟩)⟩⟩⟩)⟩⟩⟩))⟩) hP hS (lv_sub hl [0, 1, 2, 3] rfl)
          refine lv_if_ne (tgt := 93) hx hb (dk_at dkX12_ahead_3 0 rfl) (by decide) (fun c27 => ?_) (fun c27 => ?_)
          · have c27 : ¬ z20 = 0 := mt (i_eq0 (rb rz20 (by decide) (by decide))).mpr c27
            exact J93_28 _ _ _ (fun uq ⟨mm1, hq⟩ => hk3 _ ⟨mm1, (u_d_X12_ahead_3 (Or.inl ⟨c17, ⟨z18, gz18.out, ⟨A19, hA19, ⟨z20, ghw22, ⟨z23, gz23.out, ⟨z24, ghw26, (Or.inl ⟨c27, hq⟩)⟩⟩⟩⟩⟩⟩))⟩) hP hS (lv_sub hl [0, 1, 2, 3] rfl)
          · have c27 : z20 = 0 := (i_eq0 (rb rz20 (by decide) (by decide))).mp c27
            refine lv_iload_n hx hb (dk_at dkX12_ahead_3 1 rfl) rfl (lv_at hl 0 rfl) ?_
            refine lv_if_eq (tgt := 131) hx hb (dk_at dkX12_ahead_3 2 rfl) (by decide) (fun c30 => ?_) (fun c30 => ?_)
            · have c30 : z24 = 0 := (i_eq0 (rb rz24 (by decide) (by decide))).mp c30
              have e_A19_8 : A19 0 8 = (A 0 8) := by rw [hA19]; exact rfl
              have r_A_0_8 : (0 : Int) ≤ (A 0 8) ∧ (A 0 8) ≤ 5 := by rw [← e_A19_8]; exact hI 0 8
              exact J131_29 _ _ _ _ (by exact Hd.mk (by  omega)) (fun uq ⟨mm1, hq⟩ => hk3 _ ⟨mm1, (u_d_X12_ahead_3 (Or.inl ⟨c17, ⟨z18, gz18.out, ⟨A19, hA19, ⟨z20, ghw22, ⟨z23, gz23.out, ⟨z24, ghw26, (Or.inr ⟨c27, (Or.inl ⟨c30, hq⟩)⟩)⟩⟩⟩⟩⟩⟩))⟩) hI (fr.rf) hP hS (lv_sub hl [0, 1, 2, 3] rfl)
            · have c30 : ¬ z24 = 0 := mt (i_eq0 (rb rz24 (by decide) (by decide))).mpr c30
              exact J93_28 _ _ _ (fun uq ⟨mm1, hq⟩ => hk3 _ ⟨mm1, (u_d_X12_ahead_3 (Or.inl ⟨c17, ⟨z18, gz18.out, ⟨A19, hA19, ⟨z20, ghw22, ⟨z23, gz23.out, ⟨z24, ghw26, (Or.inr ⟨c27, (Or.inr ⟨c30, hq⟩)⟩)⟩⟩⟩⟩⟩⟩))⟩) hP hS (lv_sub hl [0, 1, 2, 3] rfl)
        · have c17 : ¬ z1 < (A 0 2) := mt (i_lt (rb f7 (by decide) (by decide)) (rb r_A_0_2 (by decide) (by decide))).mpr c17
          obtain ⟨A139, hA139⟩ : ∃ A139 : St, A139 = (stA (stA (stA A 0 4 z1) 0 5 z1) 0 3 0) := ⟨_, rfl⟩
          rw [← hA139] at hP hI
          have e_A139_3 : A139 0 3 = 0 := by rw [hA139]; rfl
          have e_A139_4 : A139 0 4 = z1 := by rw [hA139]; rfl
          have e_A139_5 : A139 0 5 = z1 := by rw [hA139]; rfl
          have e_A139_7 : A139 0 7 = (A 0 7) := by rw [hA139]; exact rfl
          have r_A_0_7 : (-9223372036854775808 : Int) ≤ (A 0 7) ∧ (A 0 7) ≤ 9223372036854775807 := by rw [← e_A139_7]; exact hI 0 7
          have e_A139_8 : A139 0 8 = (A 0 8) := by rw [hA139]; exact rfl
          have r_A_0_8 : (0 : Int) ≤ (A 0 8) ∧ (A 0 8) ≤ 5 := by rw [← e_A139_8]; exact hI 0 8
          have a_A139_1 : A139 1 = A 1 := by rw [hA139]; exact rfl
          have hpost : A 0 5 ≤ A139 0 4 ∧ A139 0 4 ≤ A139 0 5 ∧ LX A139 ∧ (A139 0 8 = 0 → A 0 8 = 0) ∧ (A139 0 8 = 0 → A139 0 3 = 1 → 1 ≤ A139 0 4 → (A 1 (A139 0 4 - 1).toNat < 97 ∨ 122 < A 1 (A139 0 4 - 1).toNat)) := by
            have hLX : LX A139 := LX.mk' (A := A) (s := 0) (a := z1) (e := z1) (w := (A 0 7)) a_A139_1 e_A139_3 e_A139_4 e_A139_5 e_A139_7 (by omega) (by intro h; omega) (by intro h h'; omega)
            exact ⟨by omega, by omega, hLX, by omega, fun _ h1 => absurd h1 (by omega)⟩
          exact RET _ _ _ _ _ ⟨hk3 _ ⟨0, (u_d_X12_ahead_3 (Or.inr ⟨c17, ⟨A139, hA139, rfl⟩⟩))⟩, hI, fr_def hA139 (fr.sf (fr.sf (fr.sf (fr.rf) rfl) rfl) rfl), hpost⟩ hP hS (dk_at dkX12_ahead_2 2 rfl)
      refine lv_icmp_ge (tgt := 41) hx hb (dk_at dkX12_ahead_0 6 rfl) (by decide) (fun c8 => ?_) (fun c8 => ?_)
      · have c8 : (A 0 2) ≤ z1 := (i_le (rb r_A_0_2 (by decide) (by decide)) (rb f7 (by decide) (by decide))).mp c8
        exact J41_9 _ _ _ (fun uq ⟨mm1, hq⟩ => hk1 _ ⟨mm1 + 1, (u_d_X12_ahead_1 ⟨f7, (Or.inl ⟨c8, hq⟩)⟩)⟩) hP hS (lv_sub hl [0, 1] rfl)
      · have c8 : ¬ (A 0 2) ≤ z1 := mt (i_le (rb r_A_0_2 (by decide) (by decide)) (rb f7 (by decide) (by decide))).mpr c8
        refine lv_aload_n hx hb (dk_at dkX12_ahead_0 7 rfl) rfl (lv_at hl 1 rfl) ?_
        refine va_get (D := (dC, dI)) (ci := 12) (v := .ref (q 1)) (C := RX12) (T := TX12) (N := 85) hx hb hts hiX12 hown hK hP 0 wm0 rfl 0 (by decide) (hts _ (List.mem_cons_of_mem _ wlq_0_2)) (fun _ h9 => h9) rfl (dk_at dkX12_ahead_0 8 rfl) ?_
        refine lv_iload_n hx hb (dk_at dkX12_ahead_0 9 rfl) rfl (lv_at hl 0 rfl) ?_
        refine x_iald hx hb hK hP 1 1 wm1 rfl (by omega) (by decide) (dk_at dkX12_ahead_0 10 rfl) (fun z10 hz10 => ?_)
        have rz10 : (0 : Int) ≤ z10 ∧ z10 ≤ 255 := by rw [hz10]; exact hI 1 _
        have gz10 := Hd.mk hz10
        have hz10 : z10 = A 1 (z1).toNat := hz10
        refine lv_bipush (v := iI 32) hx hb (dk_at dkX12_ahead_0 11 rfl) (by decide +kernel) ?_
        have J35_12 : ∀ (H : Heap) (locs : List Loc) (ls : Array Slot), (∀ (u : St), (∃ mm1 : Nat, (d_X12_ahead_2 (fun z1' => d_X12_ahead_1 A u mm1 z1') z1 u)) → r_X12_ahead A u) → va_P (dC, dI) vwCl (WM cI cJ cZ q A) H → va_S AS s.heap H locs → lv_has ls 6 [(1, .int (iI z1)), (0, .ref (q 0))] → W p l e (headSpec ws_mb_X12_ahead ({ frames := 1, cells := 0, slots := 0, locals := 22 } : Room)).room s m [.ref (q 0)].toArray below meth c H locs 0 0 Q (F0 m 35 ls []) := by
          intro H locs ls hk2 hP hS hl
          refine lv_iinc (v := iI (z1 + 1)) (lv' := [(1, .int (iI (z1 + 1))), (0, .ref (q 0))]) hx hb (dk_at dkX12_ahead_1 3 rfl) hl (k := 0) rfl (i_inc (by omega)) (by decide) rfl (fun ls hl => ?_)
          refine lv_goto (tgt := 5) hx hb (dk_at dkX12_ahead_1 4 rfl) (by decide) ?_
          exact ih4 _ (by omega) (z1 + 1) _ _ _ (by omega) (by omega) (fun uq ⟨mm1, hq⟩ => hk2 _ ⟨mm1, (u_d_X12_ahead_2 hq)⟩) rfl hP hS (lv_sub hl [0, 1] rfl)
        refine lv_icmp_eq (tgt := 35) hx hb (dk_at dkX12_ahead_0 12 rfl) (by decide) (fun c11 => ?_) (fun c11 => ?_)
        · have c11 : z10 = 32 := (i_eq (rb rz10 (by decide) (by decide)) ⟨by decide, by decide⟩).mp c11
          exact J35_12 _ _ _ (fun uq ⟨mm1, hq⟩ => hk1 _ ⟨mm1 + 1, (u_d_X12_ahead_1 ⟨f7, (Or.inr ⟨c8, ⟨z10, gz10.out, (Or.inl ⟨c11, hq⟩)⟩⟩)⟩)⟩) hP hS (lv_sub hl [0, 1] rfl)
        · have c11 : ¬ z10 = 32 := mt (i_eq (rb rz10 (by decide) (by decide)) ⟨by decide, by decide⟩).mpr c11
          refine lv_aload_n hx hb (dk_at dkX12_ahead_0 13 rfl) rfl (lv_at hl 1 rfl) ?_
          refine va_get (D := (dC, dI)) (ci := 12) (v := .ref (q 1)) (C := RX12) (T := TX12) (N := 85) hx hb hts hiX12 hown hK hP 0 wm0 rfl 0 (by decide) (hts _ (List.mem_cons_of_mem _ wlq_0_2)) (fun _ h9 => h9) rfl (dk_at dkX12_ahead_0 14 rfl) ?_
          refine lv_iload_n hx hb (dk_at dkX12_ahead_0 15 rfl) rfl (lv_at hl 0 rfl) ?_
          refine x_iald hx hb hK hP 1 1 wm1 rfl (by omega) (by decide) (dk_at dkX12_ahead_1 0 rfl) (fun z13 hz13 => ?_)
          have rz13 : (0 : Int) ≤ z13 ∧ z13 ≤ 255 := by rw [hz13]; exact hI 1 _
          have gz13 := Hd.mk hz13
          have hz13 : z13 = A 1 (z1).toNat := hz13
          have ez13 : z13 = z10 := hz13.trans hz10.symm
          refine lv_bipush (v := iI 10) hx hb (dk_at dkX12_ahead_1 1 rfl) (by decide +kernel) ?_
          refine lv_icmp_ne (tgt := 41) hx hb (dk_at dkX12_ahead_1 2 rfl) (by decide) (fun c14 => ?_) (fun c14 => ?_)
          · have c14 : ¬ z13 = 10 := mt (i_eq (rb rz13 (by decide) (by decide)) ⟨by decide, by decide⟩).mpr c14
            exact J41_9 _ _ _ (fun uq ⟨mm1, hq⟩ => hk1 _ ⟨mm1 + 1, (u_d_X12_ahead_1 ⟨f7, (Or.inr ⟨c8, ⟨z10, gz10.out, (Or.inr ⟨c11, ⟨z13, gz13.out, (Or.inl ⟨c14, hq⟩)⟩⟩)⟩⟩)⟩)⟩) hP hS (lv_sub hl [0, 1] rfl)
          · have c14 : z13 = 10 := (i_eq (rb rz13 (by decide) (by decide)) ⟨by decide, by decide⟩).mp c14
            exact J35_12 _ _ _ (fun uq ⟨mm1, hq⟩ => hk1 _ ⟨mm1 + 1, (u_d_X12_ahead_1 ⟨f7, (Or.inr ⟨c8, ⟨z10, gz10.out, (Or.inr ⟨c11, ⟨z13, gz13.out, (Or.inr ⟨c14, hq⟩)⟩⟩)⟩⟩)⟩)⟩) hP hS (lv_sub hl [0, 1] rfl)
  exact L5_3 _ (A 0 5) _ _ _ (by omega) (by omega) (fun uq ⟨mm1, hq⟩ => (u_r_X12_ahead ⟨mm1, hq⟩)) rfl hP hS (lv_sub hl [0, 1] rfl)
abbrev tr_r_X12_isSign (x1 : Int) (A : St) (z : Int) : Prop := (((¬ (A 0 3) = 3) ∧ (z = 0)) ∨ (((A 0 3) = 3) ∧ (((¬ (A 0 6) = x1) ∧ (z = 0)) ∨ (((A 0 6) = x1) ∧ (z = 1)))))
def r_X12_isSign (x1 : Int) (A : St) (z : Int) : Prop := tr_r_X12_isSign x1 A z
theorem u_r_X12_isSign {x1 : Int} {A : St} {z : Int} (h : tr_r_X12_isSign x1 A z) : r_X12_isSign x1 A z := h
def q_X12_isSign (x1 : Int) (A : St) (z : Int) : Prop := r_X12_isSign x1 A z ∧ ((0 ≤ z ∧ z ≤ 1) ∧ (z = 1 ↔ A 0 3 = 3 ∧ A 0 6 = x1))
def ws_mb_X12_isSign : List Cond := .code yX12_isSign cX12_isSign 2 (some .boolean) :: WX
set_option maxHeartbeats 4000000 in
set_option maxRecDepth 100000 in
theorem mb_X12_isSign (l : Launch) (dC : Nat → ClassId) (dI : Nat → Nat → Nat) (cB cI cJ cZ cQ : ClassId) (q : Nat → Nat) (A : St) (x1 : Int) (hI : IM A) (hx1 : (-2147483648 : Int) ≤ x1 ∧ x1 ≤ 2147483647) : XMi l yX12_isSign ws_mb_X12_isSign ({ frames := 0, cells := 0, slots := 0, locals := 0 } : Room) (dC, dI) (tyA cB cI cJ cZ cQ) (WM cI cJ cZ q) A [.ref (q 0), .int (iI x1)] (fun z u => A = u ∧ r_X12_isSign x1 A z ∧ ((0 ≤ z ∧ z ≤ 1) ∧ (z = 1 ↔ A 0 3 = 3 ∧ A 0 6 = x1))) := by
  refine x_metz (cc := cX12_isSign) (maxL := 2) WM_adr (by decide +kernel) rfl (Nat.le_of_ble_eq_true rfl) (fun z u h => h.2.2.1) (fun p e s m below meth c Q AS ls hx hb hml hown hts hK hDD hA0 hP hS hl RET => ?_)
  have hown : s.vm.findClass RX12 = some m.cls := hown
  have hl : lv_has ls 2 [(0, .ref (q 0)), (1, .int (iI x1))] := hl
  have hiX12 : ∀ w ∈ u_ws RX12 TX12 85, w ∈ ws_mb_X12_isSign := fun w h => List.mem_cons_of_mem _ (wx_lay w h)
  obtain ⟨H, hHe⟩ : ∃ H : Heap, H = s.heap := ⟨_, rfl⟩
  rw [← hHe] at hP
  have hS : va_S AS s.heap H [] := by rw [hHe]; exact hS
  suffices hgo : ∀ locs : List Loc, va_S AS s.heap H locs → W p l e (headSpec ws_mb_X12_isSign ({ frames := 0, cells := 0, slots := 0, locals := 0 } : Room)).room s m [.ref (q 0), .int (iI x1)].toArray below meth c H locs 0 0 Q (F0 m 0 ls []) by
    have := hgo [] hS
    rw [hHe] at this
    exact this
  clear hS hHe
  intro locs hS
  refine lv_aload_n hx hb (dk_at dkX12_isSign_0 0 rfl) rfl (lv_at hl 0 rfl) ?_
  refine va_get (D := (dC, dI)) (ci := 12) (v := .int (iI (A 0 3))) (C := RX12) (T := TX12) (N := 85) hx hb hts hiX12 hown hK hP 0 wm0 rfl 3 (by decide) (hts _ (List.mem_cons_of_mem _ wlq_0_24)) (fun _ h9 => h9) rfl (dk_at dkX12_isSign_0 1 rfl) ?_
  have r_A_0_3 : (0 : Int) ≤ (A 0 3) ∧ (A 0 3) ≤ 3 := hI 0 3
  refine lv_iconst (v := iI 3) hx hb (dk_at dkX12_isSign_0 2 rfl) (by decide +kernel) ?_
  refine lv_icmp_ne (tgt := 20) hx hb (dk_at dkX12_isSign_0 3 rfl) (by decide) (fun c1 => ?_) (fun c1 => ?_)
  · have c1 : ¬ (A 0 3) = 3 := mt (i_eq (rb r_A_0_3 (by decide) (by decide)) ⟨by decide, by decide⟩).mpr c1
    refine lv_iconst (v := iI 0) hx hb (dk_at dkX12_isSign_0 10 rfl) (by decide +kernel) ?_
    exact RET 0 _ _ _ _ _ ⟨rfl, (u_r_X12_isSign (Or.inl ⟨c1, rfl⟩)), by omega⟩ hP hS (dk_at dkX12_isSign_0 11 rfl)
  · have c1 : (A 0 3) = 3 := (i_eq (rb r_A_0_3 (by decide) (by decide)) ⟨by decide, by decide⟩).mp c1
    refine lv_aload_n hx hb (dk_at dkX12_isSign_0 4 rfl) rfl (lv_at hl 0 rfl) ?_
    refine va_get (D := (dC, dI)) (ci := 12) (v := .int (iI (A 0 6))) (C := RX12) (T := TX12) (N := 85) hx hb hts hiX12 hown hK hP 0 wm0 rfl 6 (by decide) (hts _ (List.mem_cons_of_mem _ wlq_0_25)) (fun _ h9 => h9) rfl (dk_at dkX12_isSign_0 5 rfl) ?_
    have r_A_0_6 : (-2147483648 : Int) ≤ (A 0 6) ∧ (A 0 6) ≤ 2147483647 := hI 0 6
    refine lv_iload_n hx hb (dk_at dkX12_isSign_0 6 rfl) rfl (lv_at hl 1 rfl) ?_
    refine lv_icmp_ne (tgt := 20) hx hb (dk_at dkX12_isSign_0 7 rfl) (by decide) (fun c2 => ?_) (fun c2 => ?_)
    · have c2 : ¬ (A 0 6) = x1 := mt (i_eq r_A_0_6 hx1).mpr c2
      refine lv_iconst (v := iI 0) hx hb (dk_at dkX12_isSign_0 10 rfl) (by decide +kernel) ?_
      exact RET 0 _ _ _ _ _ ⟨rfl, (u_r_X12_isSign (Or.inr ⟨c1, (Or.inl ⟨c2, rfl⟩)⟩)), by omega⟩ hP hS (dk_at dkX12_isSign_0 11 rfl)
    · have c2 : (A 0 6) = x1 := (i_eq r_A_0_6 hx1).mp c2
      refine lv_iconst (v := iI 1) hx hb (dk_at dkX12_isSign_0 8 rfl) (by decide +kernel) ?_
      refine lv_goto (tgt := 21) hx hb (dk_at dkX12_isSign_0 9 rfl) (by decide) ?_
      exact RET 1 _ _ _ _ _ ⟨rfl, (u_r_X12_isSign (Or.inr ⟨c1, (Or.inr ⟨c2, rfl⟩)⟩)), by omega⟩ hP hS (dk_at dkX12_isSign_0 11 rfl)

abbrev tr_r_X12_isWord (x1 : Int) (A : St) (z : Int) : Prop := (((¬ (A 0 3) = 1) ∧ (z = 0)) ∨ (((A 0 3) = 1) ∧ (∃ z2 : Int, ((-1 ≤ z2 ∧ z2 ≤ 1) ∧ (z2 = 0 ↔ (A 0 7) = x1) ∧ (z2 < 0 ↔ (A 0 7) < x1)) ∧ (((¬ z2 = 0) ∧ (z = 0)) ∨ ((z2 = 0) ∧ (z = 1))))))
def r_X12_isWord (x1 : Int) (A : St) (z : Int) : Prop := tr_r_X12_isWord x1 A z
theorem u_r_X12_isWord {x1 : Int} {A : St} {z : Int} (h : tr_r_X12_isWord x1 A z) : r_X12_isWord x1 A z := h
def q_X12_isWord (x1 : Int) (A : St) (z : Int) : Prop := r_X12_isWord x1 A z ∧ ((0 ≤ z ∧ z ≤ 1) ∧ (z = 1 ↔ A 0 3 = 1 ∧ A 0 7 = x1))
def ws_mb_X12_isWord : List Cond := .code yX12_isWord cX12_isWord 3 (some .boolean) :: WX
set_option maxHeartbeats 4000000 in
set_option maxRecDepth 100000 in
theorem mb_X12_isWord (l : Launch) (dC : Nat → ClassId) (dI : Nat → Nat → Nat) (cB cI cJ cZ cQ : ClassId) (q : Nat → Nat) (A : St) (x1 : Int) (hI : IM A) (hx1 : (-9223372036854775808 : Int) ≤ x1 ∧ x1 ≤ 9223372036854775807) : XMi l yX12_isWord ws_mb_X12_isWord ({ frames := 0, cells := 0, slots := 0, locals := 0 } : Room) (dC, dI) (tyA cB cI cJ cZ cQ) (WM cI cJ cZ q) A [.ref (q 0), .long (jI x1)] (fun z u => A = u ∧ r_X12_isWord x1 A z ∧ ((0 ≤ z ∧ z ≤ 1) ∧ (z = 1 ↔ A 0 3 = 1 ∧ A 0 7 = x1))) := by
  refine x_metz (cc := cX12_isWord) (maxL := 3) WM_adr (by decide +kernel) rfl (Nat.le_of_ble_eq_true rfl) (fun z u h => h.2.2.1) (fun p e s m below meth c Q AS ls hx hb hml hown hts hK hDD hA0 hP hS hl RET => ?_)
  have hown : s.vm.findClass RX12 = some m.cls := hown
  have hl : lv_has ls 3 [(0, .ref (q 0)), (1, .long (jI x1))] := hl
  have hiX12 : ∀ w ∈ u_ws RX12 TX12 85, w ∈ ws_mb_X12_isWord := fun w h => List.mem_cons_of_mem _ (wx_lay w h)
  obtain ⟨H, hHe⟩ : ∃ H : Heap, H = s.heap := ⟨_, rfl⟩
  rw [← hHe] at hP
  have hS : va_S AS s.heap H [] := by rw [hHe]; exact hS
  suffices hgo : ∀ locs : List Loc, va_S AS s.heap H locs → W p l e (headSpec ws_mb_X12_isWord ({ frames := 0, cells := 0, slots := 0, locals := 0 } : Room)).room s m [.ref (q 0), .long (jI x1)].toArray below meth c H locs 0 0 Q (F0 m 0 ls []) by
    have := hgo [] hS
    rw [hHe] at this
    exact this
  clear hS hHe
  intro locs hS
  refine lv_aload_n hx hb (dk_at dkX12_isWord_0 0 rfl) rfl (lv_at hl 0 rfl) ?_
  refine va_get (D := (dC, dI)) (ci := 12) (v := .int (iI (A 0 3))) (C := RX12) (T := TX12) (N := 85) hx hb hts hiX12 hown hK hP 0 wm0 rfl 3 (by decide) (hts _ (List.mem_cons_of_mem _ wlq_0_24)) (fun _ h9 => h9) rfl (dk_at dkX12_isWord_0 1 rfl) ?_
  have r_A_0_3 : (0 : Int) ≤ (A 0 3) ∧ (A 0 3) ≤ 3 := hI 0 3
  refine lv_iconst (v := iI 1) hx hb (dk_at dkX12_isWord_0 2 rfl) (by decide +kernel) ?_
  refine lv_icmp_ne (tgt := 21) hx hb (dk_at dkX12_isWord_0 3 rfl) (by decide) (fun c1 => ?_) (fun c1 => ?_)
  · have c1 : ¬ (A 0 3) = 1 := mt (i_eq (rb r_A_0_3 (by decide) (by decide)) ⟨by decide, by decide⟩).mpr c1
    refine lv_iconst (v := iI 0) hx hb (dk_at dkX12_isWord_0 11 rfl) (by decide +kernel) ?_
    exact RET 0 _ _ _ _ _ ⟨rfl, (u_r_X12_isWord (Or.inl ⟨c1, rfl⟩)), by omega⟩ hP hS (dk_at dkX12_isWord_0 12 rfl)
  · have c1 : (A 0 3) = 1 := (i_eq (rb r_A_0_3 (by decide) (by decide)) ⟨by decide, by decide⟩).mp c1
    refine lv_aload_n hx hb (dk_at dkX12_isWord_0 4 rfl) rfl (lv_at hl 0 rfl) ?_
    refine va_get (D := (dC, dI)) (ci := 12) (v := .long (jI (A 0 7))) (C := RX12) (T := TX12) (N := 85) hx hb hts hiX12 hown hK hP 0 wm0 rfl 7 (by decide) (hts _ (List.mem_cons_of_mem _ wlq_0_26)) (fun _ h9 => h9) rfl (dk_at dkX12_isWord_0 5 rfl) ?_
    have r_A_0_7 : (-9223372036854775808 : Int) ≤ (A 0 7) ∧ (A 0 7) ≤ 9223372036854775807 := hI 0 7
    refine lv_lload_n hx hb (dk_at dkX12_isWord_0 6 rfl) rfl (lv_at hl 1 rfl) ?_
    refine x_lcmp hx hb (dk_at dkX12_isWord_0 7 rfl) (by omega) (by omega) (fun z2 hz2 hz2b hz2c => ?_)
    have gz2 := Hd.mk (And.intro hz2 (And.intro hz2b hz2c))
    refine lv_if_ne (tgt := 21) hx hb (dk_at dkX12_isWord_0 8 rfl) (by decide) (fun c3 => ?_) (fun c3 => ?_)
    · have c3 : ¬ z2 = 0 := mt (i_eq0 (by omega)).mpr c3
      refine lv_iconst (v := iI 0) hx hb (dk_at dkX12_isWord_0 11 rfl) (by decide +kernel) ?_
      exact RET 0 _ _ _ _ _ ⟨rfl, (u_r_X12_isWord (Or.inr ⟨c1, ⟨z2, gz2.out, (Or.inl ⟨c3, rfl⟩)⟩⟩)), by omega⟩ hP hS (dk_at dkX12_isWord_0 12 rfl)
    · have c3 : z2 = 0 := (i_eq0 (by omega)).mp c3
      refine lv_iconst (v := iI 1) hx hb (dk_at dkX12_isWord_0 9 rfl) (by decide +kernel) ?_
      refine lv_goto (tgt := 22) hx hb (dk_at dkX12_isWord_0 10 rfl) (by decide) ?_
      exact RET 1 _ _ _ _ _ ⟨rfl, (u_r_X12_isWord (Or.inr ⟨c1, ⟨z2, gz2.out, (Or.inr ⟨c3, rfl⟩)⟩⟩)), by omega⟩ hP hS (dk_at dkX12_isWord_0 12 rfl)

abbrev tr_r_X12_isOwn (x1 : Int) (A : St) (z : Int) : Prop := True
def r_X12_isOwn (x1 : Int) (A : St) (z : Int) : Prop := tr_r_X12_isOwn x1 A z
theorem u_r_X12_isOwn {x1 : Int} {A : St} {z : Int} (h : tr_r_X12_isOwn x1 A z) : r_X12_isOwn x1 A z := h
def q_X12_isOwn (x1 : Int) (A : St) (z : Int) : Prop := r_X12_isOwn x1 A z ∧ ((0 ≤ z ∧ z ≤ 1) ∧ (z = ownz x1))
def ws_mb_X12_isOwn : List Cond := .code yX12_isOwn cX12_isOwn 3 (some .boolean) :: WX
set_option maxHeartbeats 4000000 in
set_option maxRecDepth 100000 in
theorem mb_X12_isOwn (l : Launch) (dC : Nat → ClassId) (dI : Nat → Nat → Nat) (cB cI cJ cZ cQ : ClassId) (q : Nat → Nat) (A : St) (x1 : Int) (hI : IM A) (hx1 : (-9223372036854775808 : Int) ≤ x1 ∧ x1 ≤ 9223372036854775807) : XMi l yX12_isOwn ws_mb_X12_isOwn ({ frames := 0, cells := 0, slots := 0, locals := 0 } : Room) (dC, dI) (tyA cB cI cJ cZ cQ) (WM cI cJ cZ q) A [.ref (q 0), .long (jI x1)] (fun z u => A = u ∧ r_X12_isOwn x1 A z ∧ ((0 ≤ z ∧ z ≤ 1) ∧ (z = ownz x1))) := by
  refine x_metz (cc := cX12_isOwn) (maxL := 3) WM_adr (by decide +kernel) rfl (Nat.le_of_ble_eq_true rfl) (fun z u h => h.2.2.1) (fun p e s m below meth c Q AS ls hx hb hml hown hts hK hDD hA0 hP hS hl RET => ?_)
  have hown : s.vm.findClass RX12 = some m.cls := hown
  have hl : lv_has ls 3 [(0, .ref (q 0)), (1, .long (jI x1))] := hl
  obtain ⟨H, hHe⟩ : ∃ H : Heap, H = s.heap := ⟨_, rfl⟩
  rw [← hHe] at hP
  have hS : va_S AS s.heap H [] := by rw [hHe]; exact hS
  suffices hgo : ∀ locs : List Loc, va_S AS s.heap H locs → W p l e (headSpec ws_mb_X12_isOwn ({ frames := 0, cells := 0, slots := 0, locals := 0 } : Room)).room s m [.ref (q 0), .long (jI x1)].toArray below meth c H locs 0 0 Q (F0 m 0 ls []) by
    have := hgo [] hS
    rw [hHe] at this
    exact this
  clear hS hHe
  intro locs hS
  refine lv_lload_n hx hb (dk_at dkX12_isOwn_0 0 rfl) rfl (lv_at hl 1 rfl) ?_
  refine lv_ldc2 (v := 482854658917) hx hb hown (hts _ (List.mem_cons_of_mem _ wlq_0_44)) (dk_at dkX12_isOwn_0 1 rfl) ?_
  refine tp_l (y := jI 482854658917) (by decide +kernel) ?_
  refine x_lcmp hx hb (dk_at dkX12_isOwn_0 2 rfl) (by omega) (by omega) (fun z1 hz1 hz1b hz1c => ?_)
  have gz1 := Hd.mk (And.intro hz1 (And.intro hz1b hz1c))
  refine lv_if_eq (tgt := 40) hx hb (dk_at dkX12_isOwn_0 3 rfl) (by decide) (fun c2 => ?_) (fun c2 => ?_)
  · have c2 : z1 = 0 := (i_eq0 (by omega)).mp c2
    refine lv_iconst (v := iI 1) hx hb (dk_at dkX12_isOwn_1 4 rfl) (by decide +kernel) ?_
    exact RET 1 _ _ _ _ _ ⟨rfl, (u_r_X12_isOwn trivial), ⟨by decide, by unfold ownz; rw [if_pos (by exact Or.inl (hz1b.mp c2))]⟩⟩ hP hS (dk_at dkX12_isOwn_1 5 rfl)
  · have c2 : ¬ z1 = 0 := mt (i_eq0 (by omega)).mpr c2
    have n1 : Hd (¬ x1 = 482854658917) := Hd.mk (fun h9 => c2 (hz1b.mpr h9))
    clear hz1 hz1b hz1c gz1 c2
    refine lv_lload_n hx hb (dk_at dkX12_isOwn_0 4 rfl) rfl (lv_at hl 1 rfl) ?_
    refine lv_ldc2 (v := 1685024626) hx hb hown (hts _ (List.mem_cons_of_mem _ wlq_0_45)) (dk_at dkX12_isOwn_0 5 rfl) ?_
    refine tp_l (y := jI 1685024626) (by decide +kernel) ?_
    refine x_lcmp hx hb (dk_at dkX12_isOwn_0 6 rfl) (by omega) (by omega) (fun z3 hz3 hz3b hz3c => ?_)
    have gz3 := Hd.mk (And.intro hz3 (And.intro hz3b hz3c))
    refine lv_if_eq (tgt := 40) hx hb (dk_at dkX12_isOwn_0 7 rfl) (by decide) (fun c4 => ?_) (fun c4 => ?_)
    · have c4 : z3 = 0 := (i_eq0 (by omega)).mp c4
      refine lv_iconst (v := iI 1) hx hb (dk_at dkX12_isOwn_1 4 rfl) (by decide +kernel) ?_
      exact RET 1 _ _ _ _ _ ⟨rfl, (u_r_X12_isOwn trivial), ⟨by decide, by unfold ownz; rw [if_pos (by exact Or.inr (Or.inl (hz3b.mp c4)))]⟩⟩ hP hS (dk_at dkX12_isOwn_1 5 rfl)
    · have c4 : ¬ z3 = 0 := mt (i_eq0 (by omega)).mpr c4
      have n3 : Hd (¬ x1 = 1685024626) := Hd.mk (fun h9 => c4 (hz3b.mpr h9))
      clear hz3 hz3b hz3c gz3 c4
      refine lv_lload_n hx hb (dk_at dkX12_isOwn_0 8 rfl) rfl (lv_at hl 1 rfl) ?_
      refine lv_ldc2 (v := 6451064) hx hb hown (hts _ (List.mem_cons_of_mem _ wlq_0_46)) (dk_at dkX12_isOwn_0 9 rfl) ?_
      refine tp_l (y := jI 6451064) (by decide +kernel) ?_
      refine x_lcmp hx hb (dk_at dkX12_isOwn_0 10 rfl) (by omega) (by omega) (fun z5 hz5 hz5b hz5c => ?_)
      have gz5 := Hd.mk (And.intro hz5 (And.intro hz5b hz5c))
      refine lv_if_eq (tgt := 40) hx hb (dk_at dkX12_isOwn_0 11 rfl) (by decide) (fun c6 => ?_) (fun c6 => ?_)
      · have c6 : z5 = 0 := (i_eq0 (by omega)).mp c6
        refine lv_iconst (v := iI 1) hx hb (dk_at dkX12_isOwn_1 4 rfl) (by decide +kernel) ?_
        exact RET 1 _ _ _ _ _ ⟨rfl, (u_r_X12_isOwn trivial), ⟨by decide, by unfold ownz; rw [if_pos (by exact Or.inr (Or.inr (Or.inl (hz5b.mp c6))))]⟩⟩ hP hS (dk_at dkX12_isOwn_1 5 rfl)
      · have c6 : ¬ z5 = 0 := mt (i_eq0 (by omega)).mpr c6
        have n5 : Hd (¬ x1 = 6451064) := Hd.mk (fun h9 => c6 (hz5b.mpr h9))
        clear hz5 hz5b hz5c gz5 c6
        refine lv_lload_n hx hb (dk_at dkX12_isOwn_0 12 rfl) rfl (lv_at hl 1 rfl) ?_
        refine lv_ldc2 (v := 24948) hx hb hown (hts _ (List.mem_cons_of_mem _ wlq_0_47)) (dk_at dkX12_isOwn_0 13 rfl) ?_
        refine tp_l (y := jI 24948) (by decide +kernel) ?_
        refine x_lcmp hx hb (dk_at dkX12_isOwn_0 14 rfl) (by omega) (by omega) (fun z7 hz7 hz7b hz7c => ?_)
        have gz7 := Hd.mk (And.intro hz7 (And.intro hz7b hz7c))
        refine lv_if_eq (tgt := 40) hx hb (dk_at dkX12_isOwn_0 15 rfl) (by decide) (fun c8 => ?_) (fun c8 => ?_)
        · have c8 : z7 = 0 := (i_eq0 (by omega)).mp c8
          refine lv_iconst (v := iI 1) hx hb (dk_at dkX12_isOwn_1 4 rfl) (by decide +kernel) ?_
          exact RET 1 _ _ _ _ _ ⟨rfl, (u_r_X12_isOwn trivial), ⟨by decide, by unfold ownz; rw [if_pos (by exact Or.inr (Or.inr (Or.inr (Or.inl (hz7b.mp c8)))))]⟩⟩ hP hS (dk_at dkX12_isOwn_1 5 rfl)
        · have c8 : ¬ z7 = 0 := mt (i_eq0 (by omega)).mpr c8
          have n7 : Hd (¬ x1 = 24948) := Hd.mk (fun h9 => c8 (hz7b.mpr h9))
          clear hz7 hz7b hz7c gz7 c8
          refine lv_lload_n hx hb (dk_at dkX12_isOwn_1 0 rfl) rfl (lv_at hl 1 rfl) ?_
          refine lv_ldc2 (v := 7038329) hx hb hown (hts _ (List.mem_cons_of_mem _ wlq_0_48)) (dk_at dkX12_isOwn_1 1 rfl) ?_
          refine tp_l (y := jI 7038329) (by decide +kernel) ?_
          refine x_lcmp hx hb (dk_at dkX12_isOwn_1 2 rfl) (by omega) (by omega) (fun z9 hz9 hz9b hz9c => ?_)
          have gz9 := Hd.mk (And.intro hz9 (And.intro hz9b hz9c))
          refine lv_if_ne (tgt := 42) hx hb (dk_at dkX12_isOwn_1 3 rfl) (by decide) (fun c10 => ?_) (fun c10 => ?_)
          · have c10 : ¬ z9 = 0 := mt (i_eq0 (by omega)).mpr c10
            have n9 : Hd (¬ x1 = 7038329) := Hd.mk (fun h9 => c10 (hz9b.mpr h9))
            clear hz9 hz9b hz9c gz9 c10
            refine lv_lload_n hx hb (dk_at dkX12_isOwn_1 6 rfl) rfl (lv_at hl 1 rfl) ?_
            refine lv_ldc2 (v := 26990) hx hb hown (hts _ (List.mem_cons_of_mem _ wlq_0_49)) (dk_at dkX12_isOwn_1 7 rfl) ?_
            refine tp_l (y := jI 26990) (by decide +kernel) ?_
            refine x_lcmp hx hb (dk_at dkX12_isOwn_1 8 rfl) (by omega) (by omega) (fun z11 hz11 hz11b hz11c => ?_)
            have gz11 := Hd.mk (And.intro hz11 (And.intro hz11b hz11c))
            refine lv_if_eq (tgt := 82) hx hb (dk_at dkX12_isOwn_1 9 rfl) (by decide) (fun c12 => ?_) (fun c12 => ?_)
            · have c12 : z11 = 0 := (i_eq0 (by omega)).mp c12
              refine lv_iconst (v := iI 1) hx hb (dk_at dkX12_isOwn_2 10 rfl) (by decide +kernel) ?_
              exact RET 1 _ _ _ _ _ ⟨rfl, (u_r_X12_isOwn trivial), ⟨by decide, by unfold ownz; rw [if_pos (by exact Or.inr (Or.inr (Or.inr (Or.inr (Or.inr (Or.inl (hz11b.mp c12)))))))]⟩⟩ hP hS (dk_at dkX12_isOwn_2 11 rfl)
            · have c12 : ¬ z11 = 0 := mt (i_eq0 (by omega)).mpr c12
              have n11 : Hd (¬ x1 = 26990) := Hd.mk (fun h9 => c12 (hz11b.mpr h9))
              clear hz11 hz11b hz11c gz11 c12
              refine lv_lload_n hx hb (dk_at dkX12_isOwn_1 10 rfl) rfl (lv_at hl 1 rfl) ?_
              refine lv_ldc2 (v := 123581014175598) hx hb hown (hts _ (List.mem_cons_of_mem _ wlq_0_50)) (dk_at dkX12_isOwn_1 11 rfl) ?_
              refine tp_l (y := jI 123581014175598) (by decide +kernel) ?_
              refine x_lcmp hx hb (dk_at dkX12_isOwn_1 12 rfl) (by omega) (by omega) (fun z13 hz13 hz13b hz13c => ?_)
              have gz13 := Hd.mk (And.intro hz13 (And.intro hz13b hz13c))
              refine lv_if_eq (tgt := 82) hx hb (dk_at dkX12_isOwn_1 13 rfl) (by decide) (fun c14 => ?_) (fun c14 => ?_)
              · have c14 : z13 = 0 := (i_eq0 (by omega)).mp c14
                refine lv_iconst (v := iI 1) hx hb (dk_at dkX12_isOwn_2 10 rfl) (by decide +kernel) ?_
                exact RET 1 _ _ _ _ _ ⟨rfl, (u_r_X12_isOwn trivial), ⟨by decide, by unfold ownz; rw [if_pos (by exact Or.inr (Or.inr (Or.inr (Or.inr (Or.inr (Or.inr (Or.inl (hz13b.mp c14))))))))]⟩⟩ hP hS (dk_at dkX12_isOwn_2 11 rfl)
              · have c14 : ¬ z13 = 0 := mt (i_eq0 (by omega)).mpr c14
                have n13 : Hd (¬ x1 = 123581014175598) := Hd.mk (fun h9 => c14 (hz13b.mpr h9))
                clear hz13 hz13b hz13c gz13 c14
                refine lv_lload_n hx hb (dk_at dkX12_isOwn_1 14 rfl) rfl (lv_at hl 1 rfl) ?_
                refine lv_ldc2 (v := 6840691) hx hb hown (hts _ (List.mem_cons_of_mem _ wlq_0_51)) (dk_at dkX12_isOwn_1 15 rfl) ?_
                refine tp_l (y := jI 6840691) (by decide +kernel) ?_
                refine x_lcmp hx hb (dk_at dkX12_isOwn_2 0 rfl) (by omega) (by omega) (fun z15 hz15 hz15b hz15c => ?_)
                have gz15 := Hd.mk (And.intro hz15 (And.intro hz15b hz15c))
                refine lv_if_eq (tgt := 82) hx hb (dk_at dkX12_isOwn_2 1 rfl) (by decide) (fun c16 => ?_) (fun c16 => ?_)
                · have c16 : z15 = 0 := (i_eq0 (by omega)).mp c16
                  refine lv_iconst (v := iI 1) hx hb (dk_at dkX12_isOwn_2 10 rfl) (by decide +kernel) ?_
                  exact RET 1 _ _ _ _ _ ⟨rfl, (u_r_X12_isOwn trivial), ⟨by decide, by unfold ownz; rw [if_pos (by exact Or.inr (Or.inr (Or.inr (Or.inr (Or.inr (Or.inr (Or.inr (Or.inl (hz15b.mp c16)))))))))]⟩⟩ hP hS (dk_at dkX12_isOwn_2 11 rfl)
                · have c16 : ¬ z15 = 0 := mt (i_eq0 (by omega)).mpr c16
                  have n15 : Hd (¬ x1 = 6840691) := Hd.mk (fun h9 => c16 (hz15b.mpr h9))
                  clear hz15 hz15b hz15c gz15 c16
                  refine lv_lload_n hx hb (dk_at dkX12_isOwn_2 2 rfl) rfl (lv_at hl 1 rfl) ?_
                  refine lv_ldc2 (v := 1936225652) hx hb hown (hts _ (List.mem_cons_of_mem _ wlq_0_52)) (dk_at dkX12_isOwn_2 3 rfl) ?_
                  refine tp_l (y := jI 1936225652) (by decide +kernel) ?_
                  refine x_lcmp hx hb (dk_at dkX12_isOwn_2 4 rfl) (by omega) (by omega) (fun z17 hz17 hz17b hz17c => ?_)
                  have gz17 := Hd.mk (And.intro hz17 (And.intro hz17b hz17c))
                  refine lv_if_eq (tgt := 82) hx hb (dk_at dkX12_isOwn_2 5 rfl) (by decide) (fun c18 => ?_) (fun c18 => ?_)
                  · have c18 : z17 = 0 := (i_eq0 (by omega)).mp c18
                    refine lv_iconst (v := iI 1) hx hb (dk_at dkX12_isOwn_2 10 rfl) (by decide +kernel) ?_
                    exact RET 1 _ _ _ _ _ ⟨rfl, (u_r_X12_isOwn trivial), ⟨by decide, by unfold ownz; rw [if_pos (by exact Or.inr (Or.inr (Or.inr (Or.inr (Or.inr (Or.inr (Or.inr (Or.inr (Or.inl (hz17b.mp c18))))))))))]⟩⟩ hP hS (dk_at dkX12_isOwn_2 11 rfl)
                  · have c18 : ¬ z17 = 0 := mt (i_eq0 (by omega)).mpr c18
                    have n17 : Hd (¬ x1 = 1936225652) := Hd.mk (fun h9 => c18 (hz17b.mpr h9))
                    clear hz17 hz17b hz17c gz17 c18
                    refine lv_lload_n hx hb (dk_at dkX12_isOwn_2 6 rfl) rfl (lv_at hl 1 rfl) ?_
                    refine lv_ldc2 (v := 25209) hx hb hown (hts _ (List.mem_cons_of_mem _ wlq_0_53)) (dk_at dkX12_isOwn_2 7 rfl) ?_
                    refine tp_l (y := jI 25209) (by decide +kernel) ?_
                    refine x_lcmp hx hb (dk_at dkX12_isOwn_2 8 rfl) (by omega) (by omega) (fun z19 hz19 hz19b hz19c => ?_)
                    have gz19 := Hd.mk (And.intro hz19 (And.intro hz19b hz19c))
                    refine lv_if_ne (tgt := 84) hx hb (dk_at dkX12_isOwn_2 9 rfl) (by decide) (fun c20 => ?_) (fun c20 => ?_)
                    · have c20 : ¬ z19 = 0 := mt (i_eq0 (by omega)).mpr c20
                      have n19 : Hd (¬ x1 = 25209) := Hd.mk (fun h9 => c20 (hz19b.mpr h9))
                      clear hz19 hz19b hz19c gz19 c20
                      refine lv_lload_n hx hb (dk_at dkX12_isOwn_2 12 rfl) rfl (lv_at hl 1 rfl) ?_
                      refine lv_ldc2 (v := 1819243380) hx hb hown (hts _ (List.mem_cons_of_mem _ wlq_0_54)) (dk_at dkX12_isOwn_2 13 rfl) ?_
                      refine tp_l (y := jI 1819243380) (by decide +kernel) ?_
                      refine x_lcmp hx hb (dk_at dkX12_isOwn_2 14 rfl) (by omega) (by omega) (fun z21 hz21 hz21b hz21c => ?_)
                      have gz21 := Hd.mk (And.intro hz21 (And.intro hz21b hz21c))
                      refine lv_if_eq (tgt := 124) hx hb (dk_at dkX12_isOwn_2 15 rfl) (by decide) (fun c22 => ?_) (fun c22 => ?_)
                      · have c22 : z21 = 0 := (i_eq0 (by omega)).mp c22
                        refine lv_iconst (v := iI 1) hx hb (dk_at dkX12_isOwn_4 0 rfl) (by decide +kernel) ?_
                        exact RET 1 _ _ _ _ _ ⟨rfl, (u_r_X12_isOwn trivial), ⟨by decide, by unfold ownz; rw [if_pos (by exact Or.inr (Or.inr (Or.inr (Or.inr (Or.inr (Or.inr (Or.inr (Or.inr (Or.inr (Or.inr (Or.inl (hz21b.mp c22))))))))))))]⟩⟩ hP hS (dk_at dkX12_isOwn_4 1 rfl)
                      · have c22 : ¬ z21 = 0 := mt (i_eq0 (by omega)).mpr c22
                        have n21 : Hd (¬ x1 = 1819243380) := Hd.mk (fun h9 => c22 (hz21b.mpr h9))
                        clear hz21 hz21b hz21c gz21 c22
                        refine lv_lload_n hx hb (dk_at dkX12_isOwn_3 0 rfl) rfl (lv_at hl 1 rfl) ?_
                        refine lv_ldc2 (v := 499967946343) hx hb hown (hts _ (List.mem_cons_of_mem _ wlq_0_55)) (dk_at dkX12_isOwn_3 1 rfl) ?_
                        refine tp_l (y := jI 499967946343) (by decide +kernel) ?_
                        refine x_lcmp hx hb (dk_at dkX12_isOwn_3 2 rfl) (by omega) (by omega) (fun z23 hz23 hz23b hz23c => ?_)
                        have gz23 := Hd.mk (And.intro hz23 (And.intro hz23b hz23c))
                        refine lv_if_eq (tgt := 124) hx hb (dk_at dkX12_isOwn_3 3 rfl) (by decide) (fun c24 => ?_) (fun c24 => ?_)
                        · have c24 : z23 = 0 := (i_eq0 (by omega)).mp c24
                          refine lv_iconst (v := iI 1) hx hb (dk_at dkX12_isOwn_4 0 rfl) (by decide +kernel) ?_
                          exact RET 1 _ _ _ _ _ ⟨rfl, (u_r_X12_isOwn trivial), ⟨by decide, by unfold ownz; rw [if_pos (by exact Or.inr (Or.inr (Or.inr (Or.inr (Or.inr (Or.inr (Or.inr (Or.inr (Or.inr (Or.inr (Or.inr (Or.inl (hz23b.mp c24)))))))))))))]⟩⟩ hP hS (dk_at dkX12_isOwn_4 1 rfl)
                        · have c24 : ¬ z23 = 0 := mt (i_eq0 (by omega)).mpr c24
                          have n23 : Hd (¬ x1 = 499967946343) := Hd.mk (fun h9 => c24 (hz23b.mpr h9))
                          clear hz23 hz23b hz23c gz23 c24
                          refine lv_lload_n hx hb (dk_at dkX12_isOwn_3 4 rfl) rfl (lv_at hl 1 rfl) ?_
                          refine lv_ldc2 (v := 512735736947) hx hb hown (hts _ (List.mem_cons_of_mem _ wlq_0_56)) (dk_at dkX12_isOwn_3 5 rfl) ?_
                          refine tp_l (y := jI 512735736947) (by decide +kernel) ?_
                          refine x_lcmp hx hb (dk_at dkX12_isOwn_3 6 rfl) (by omega) (by omega) (fun z25 hz25 hz25b hz25c => ?_)
                          have gz25 := Hd.mk (And.intro hz25 (And.intro hz25b hz25c))
                          refine lv_if_eq (tgt := 124) hx hb (dk_at dkX12_isOwn_3 7 rfl) (by decide) (fun c26 => ?_) (fun c26 => ?_)
                          · have c26 : z25 = 0 := (i_eq0 (by omega)).mp c26
                            refine lv_iconst (v := iI 1) hx hb (dk_at dkX12_isOwn_4 0 rfl) (by decide +kernel) ?_
                            exact RET 1 _ _ _ _ _ ⟨rfl, (u_r_X12_isOwn trivial), ⟨by decide, by unfold ownz; rw [if_pos (by exact Or.inr (Or.inr (Or.inr (Or.inr (Or.inr (Or.inr (Or.inr (Or.inr (Or.inr (Or.inr (Or.inr (Or.inr (Or.inl (hz25b.mp c26))))))))))))))]⟩⟩ hP hS (dk_at dkX12_isOwn_4 1 rfl)
                          · have c26 : ¬ z25 = 0 := mt (i_eq0 (by omega)).mpr c26
                            have n25 : Hd (¬ x1 = 512735736947) := Hd.mk (fun h9 => c26 (hz25b.mpr h9))
                            clear hz25 hz25b hz25c gz25 c26
                            refine lv_lload_n hx hb (dk_at dkX12_isOwn_3 8 rfl) rfl (lv_at hl 1 rfl) ?_
                            refine lv_ldc2 (v := 1836413812) hx hb hown (hts _ (List.mem_cons_of_mem _ wlq_0_57)) (dk_at dkX12_isOwn_3 9 rfl) ?_
                            refine tp_l (y := jI 1836413812) (by decide +kernel) ?_
                            refine x_lcmp hx hb (dk_at dkX12_isOwn_3 10 rfl) (by omega) (by omega) (fun z27 hz27 hz27b hz27c => ?_)
                            have gz27 := Hd.mk (And.intro hz27 (And.intro hz27b hz27c))
                            refine lv_if_eq (tgt := 124) hx hb (dk_at dkX12_isOwn_3 11 rfl) (by decide) (fun c28 => ?_) (fun c28 => ?_)
                            · have c28 : z27 = 0 := (i_eq0 (by omega)).mp c28
                              refine lv_iconst (v := iI 1) hx hb (dk_at dkX12_isOwn_4 0 rfl) (by decide +kernel) ?_
                              exact RET 1 _ _ _ _ _ ⟨rfl, (u_r_X12_isOwn trivial), ⟨by decide, by unfold ownz; rw [if_pos (by exact Or.inr (Or.inr (Or.inr (Or.inr (Or.inr (Or.inr (Or.inr (Or.inr (Or.inr (Or.inr (Or.inr (Or.inr (Or.inr (Or.inl (hz27b.mp c28)))))))))))))))]⟩⟩ hP hS (dk_at dkX12_isOwn_4 1 rfl)
                            · have c28 : ¬ z27 = 0 := mt (i_eq0 (by omega)).mpr c28
                              have n27 : Hd (¬ x1 = 1836413812) := Hd.mk (fun h9 => c28 (hz27b.mpr h9))
                              clear hz27 hz27b hz27c gz27 c28
                              refine lv_lload_n hx hb (dk_at dkX12_isOwn_3 12 rfl) rfl (lv_at hl 1 rfl) ?_
                              refine lv_ldc2 (v := 6447474) hx hb hown (hts _ (List.mem_cons_of_mem _ wlq_0_58)) (dk_at dkX12_isOwn_3 13 rfl) ?_
                              refine tp_l (y := jI 6447474) (by decide +kernel) ?_
                              refine x_lcmp hx hb (dk_at dkX12_isOwn_3 14 rfl) (by omega) (by omega) (fun z29 hz29 hz29b hz29c => ?_)
                              have gz29 := Hd.mk (And.intro hz29 (And.intro hz29b hz29c))
                              refine lv_if_ne (tgt := 126) hx hb (dk_at dkX12_isOwn_3 15 rfl) (by decide) (fun c30 => ?_) (fun c30 => ?_)
                              · have c30 : ¬ z29 = 0 := mt (i_eq0 (by omega)).mpr c30
                                have n29 : Hd (¬ x1 = 6447474) := Hd.mk (fun h9 => c30 (hz29b.mpr h9))
                                clear hz29 hz29b hz29c gz29 c30
                                refine lv_lload_n hx hb (dk_at dkX12_isOwn_4 2 rfl) rfl (lv_at hl 1 rfl) ?_
                                refine lv_ldc2 (v := 2003330414) hx hb hown (hts _ (List.mem_cons_of_mem _ wlq_0_59)) (dk_at dkX12_isOwn_4 3 rfl) ?_
                                refine tp_l (y := jI 2003330414) (by decide +kernel) ?_
                                refine x_lcmp hx hb (dk_at dkX12_isOwn_4 4 rfl) (by omega) (by omega) (fun z31 hz31 hz31b hz31c => ?_)
                                have gz31 := Hd.mk (And.intro hz31 (And.intro hz31b hz31c))
                                refine lv_if_eq (tgt := 166) hx hb (dk_at dkX12_isOwn_4 5 rfl) (by decide) (fun c32 => ?_) (fun c32 => ?_)
                                · have c32 : z31 = 0 := (i_eq0 (by omega)).mp c32
                                  refine lv_iconst (v := iI 1) hx hb (dk_at dkX12_isOwn_5 6 rfl) (by decide +kernel) ?_
                                  exact RET 1 _ _ _ _ _ ⟨rfl, (u_r_X12_isOwn trivial), ⟨by decide, by unfold ownz; rw [if_pos (by exact Or.inr (Or.inr (Or.inr (Or.inr (Or.inr (Or.inr (Or.inr (Or.inr (Or.inr (Or.inr (Or.inr (Or.inr (Or.inr (Or.inr (Or.inr (Or.inl (hz31b.mp c32)))))))))))))))))]⟩⟩ hP hS (dk_at dkX12_isOwn_5 7 rfl)
                                · have c32 : ¬ z31 = 0 := mt (i_eq0 (by omega)).mpr c32
                                  have n31 : Hd (¬ x1 = 2003330414) := Hd.mk (fun h9 => c32 (hz31b.mpr h9))
                                  clear hz31 hz31b hz31c gz31 c32
                                  refine lv_lload_n hx hb (dk_at dkX12_isOwn_4 6 rfl) rfl (lv_at hl 1 rfl) ?_
                                  refine lv_ldc2 (v := 28530) hx hb hown (hts _ (List.mem_cons_of_mem _ wlq_1_0)) (dk_at dkX12_isOwn_4 7 rfl) ?_
                                  refine tp_l (y := jI 28530) (by decide +kernel) ?_
                                  refine x_lcmp hx hb (dk_at dkX12_isOwn_4 8 rfl) (by omega) (by omega) (fun z33 hz33 hz33b hz33c => ?_)
                                  have gz33 := Hd.mk (And.intro hz33 (And.intro hz33b hz33c))
                                  refine lv_if_eq (tgt := 166) hx hb (dk_at dkX12_isOwn_4 9 rfl) (by decide) (fun c34 => ?_) (fun c34 => ?_)
                                  · have c34 : z33 = 0 := (i_eq0 (by omega)).mp c34
                                    refine lv_iconst (v := iI 1) hx hb (dk_at dkX12_isOwn_5 6 rfl) (by decide +kernel) ?_
                                    exact RET 1 _ _ _ _ _ ⟨rfl, (u_r_X12_isOwn trivial), ⟨by decide, by unfold ownz; rw [if_pos (by exact Or.inr (Or.inr (Or.inr (Or.inr (Or.inr (Or.inr (Or.inr (Or.inr (Or.inr (Or.inr (Or.inr (Or.inr (Or.inr (Or.inr (Or.inr (Or.inr (Or.inl (hz33b.mp c34))))))))))))))))))]⟩⟩ hP hS (dk_at dkX12_isOwn_5 7 rfl)
                                  · have c34 : ¬ z33 = 0 := mt (i_eq0 (by omega)).mpr c34
                                    have n33 : Hd (¬ x1 = 28530) := Hd.mk (fun h9 => c34 (hz33b.mpr h9))
                                    clear hz33 hz33b hz33c gz33 c34
                                    refine lv_lload_n hx hb (dk_at dkX12_isOwn_4 10 rfl) rfl (lv_at hl 1 rfl) ?_
                                    refine lv_ldc2 (v := 6385252) hx hb hown (hts _ (List.mem_cons_of_mem _ wlq_1_1)) (dk_at dkX12_isOwn_4 11 rfl) ?_
                                    refine tp_l (y := jI 6385252) (by decide +kernel) ?_
                                    refine x_lcmp hx hb (dk_at dkX12_isOwn_4 12 rfl) (by omega) (by omega) (fun z35 hz35 hz35b hz35c => ?_)
                                    have gz35 := Hd.mk (And.intro hz35 (And.intro hz35b hz35c))
                                    refine lv_if_eq (tgt := 166) hx hb (dk_at dkX12_isOwn_4 13 rfl) (by decide) (fun c36 => ?_) (fun c36 => ?_)
                                    · have c36 : z35 = 0 := (i_eq0 (by omega)).mp c36
                                      refine lv_iconst (v := iI 1) hx hb (dk_at dkX12_isOwn_5 6 rfl) (by decide +kernel) ?_
                                      exact RET 1 _ _ _ _ _ ⟨rfl, (u_r_X12_isOwn trivial), ⟨by decide, by unfold ownz; rw [if_pos (by exact Or.inr (Or.inr (Or.inr (Or.inr (Or.inr (Or.inr (Or.inr (Or.inr (Or.inr (Or.inr (Or.inr (Or.inr (Or.inr (Or.inr (Or.inr (Or.inr (Or.inr (Or.inl (hz35b.mp c36)))))))))))))))))))]⟩⟩ hP hS (dk_at dkX12_isOwn_5 7 rfl)
                                    · have c36 : ¬ z35 = 0 := mt (i_eq0 (by omega)).mpr c36
                                      have n35 : Hd (¬ x1 = 6385252) := Hd.mk (fun h9 => c36 (hz35b.mpr h9))
                                      clear hz35 hz35b hz35c gz35 c36
                                      refine lv_lload_n hx hb (dk_at dkX12_isOwn_4 14 rfl) rfl (lv_at hl 1 rfl) ?_
                                      refine lv_ldc2 (v := 7237492) hx hb hown (hts _ (List.mem_cons_of_mem _ wlq_1_2)) (dk_at dkX12_isOwn_4 15 rfl) ?_
                                      refine tp_l (y := jI 7237492) (by decide +kernel) ?_
                                      refine x_lcmp hx hb (dk_at dkX12_isOwn_5 0 rfl) (by omega) (by omega) (fun z37 hz37 hz37b hz37c => ?_)
                                      have gz37 := Hd.mk (And.intro hz37 (And.intro hz37b hz37c))
                                      refine lv_if_eq (tgt := 166) hx hb (dk_at dkX12_isOwn_5 1 rfl) (by decide) (fun c38 => ?_) (fun c38 => ?_)
                                      · have c38 : z37 = 0 := (i_eq0 (by omega)).mp c38
                                        refine lv_iconst (v := iI 1) hx hb (dk_at dkX12_isOwn_5 6 rfl) (by decide +kernel) ?_
                                        exact RET 1 _ _ _ _ _ ⟨rfl, (u_r_X12_isOwn trivial), ⟨by decide, by unfold ownz; rw [if_pos (by exact Or.inr (Or.inr (Or.inr (Or.inr (Or.inr (Or.inr (Or.inr (Or.inr (Or.inr (Or.inr (Or.inr (Or.inr (Or.inr (Or.inr (Or.inr (Or.inr (Or.inr (Or.inr (Or.inl (hz37b.mp c38))))))))))))))))))))]⟩⟩ hP hS (dk_at dkX12_isOwn_5 7 rfl)
                                      · have c38 : ¬ z37 = 0 := mt (i_eq0 (by omega)).mpr c38
                                        have n37 : Hd (¬ x1 = 7237492) := Hd.mk (fun h9 => c38 (hz37b.mpr h9))
                                        clear hz37 hz37b hz37c gz37 c38
                                        refine lv_lload_n hx hb (dk_at dkX12_isOwn_5 2 rfl) rfl (lv_at hl 1 rfl) ?_
                                        refine lv_ldc2 (v := 6384748) hx hb hown (hts _ (List.mem_cons_of_mem _ wlq_1_3)) (dk_at dkX12_isOwn_5 3 rfl) ?_
                                        refine tp_l (y := jI 6384748) (by decide +kernel) ?_
                                        refine x_lcmp hx hb (dk_at dkX12_isOwn_5 4 rfl) (by omega) (by omega) (fun z39 hz39 hz39b hz39c => ?_)
                                        have gz39 := Hd.mk (And.intro hz39 (And.intro hz39b hz39c))
                                        refine lv_if_ne (tgt := 168) hx hb (dk_at dkX12_isOwn_5 5 rfl) (by decide) (fun c40 => ?_) (fun c40 => ?_)
                                        · have c40 : ¬ z39 = 0 := mt (i_eq0 (by omega)).mpr c40
                                          have n39 : Hd (¬ x1 = 6384748) := Hd.mk (fun h9 => c40 (hz39b.mpr h9))
                                          clear hz39 hz39b hz39c gz39 c40
                                          refine lv_lload_n hx hb (dk_at dkX12_isOwn_5 8 rfl) rfl (lv_at hl 1 rfl) ?_
                                          refine lv_ldc2 (v := 7825519) hx hb hown (hts _ (List.mem_cons_of_mem _ wlq_1_4)) (dk_at dkX12_isOwn_5 9 rfl) ?_
                                          refine tp_l (y := jI 7825519) (by decide +kernel) ?_
                                          refine x_lcmp hx hb (dk_at dkX12_isOwn_5 10 rfl) (by omega) (by omega) (fun z41 hz41 hz41b hz41c => ?_)
                                          have gz41 := Hd.mk (And.intro hz41 (And.intro hz41b hz41c))
                                          refine lv_if_eq (tgt := 208) hx hb (dk_at dkX12_isOwn_5 11 rfl) (by decide) (fun c42 => ?_) (fun c42 => ?_)
                                          · have c42 : z41 = 0 := (i_eq0 (by omega)).mp c42
                                            refine lv_iconst (v := iI 1) hx hb (dk_at dkX12_isOwn_6 12 rfl) (by decide +kernel) ?_
                                            exact RET 1 _ _ _ _ _ ⟨rfl, (u_r_X12_isOwn trivial), ⟨by decide, by unfold ownz; rw [if_pos (by exact Or.inr (Or.inr (Or.inr (Or.inr (Or.inr (Or.inr (Or.inr (Or.inr (Or.inr (Or.inr (Or.inr (Or.inr (Or.inr (Or.inr (Or.inr (Or.inr (Or.inr (Or.inr (Or.inr (Or.inr (Or.inl (hz41b.mp c42))))))))))))))))))))))]⟩⟩ hP hS (dk_at dkX12_isOwn_6 13 rfl)
                                          · have c42 : ¬ z41 = 0 := mt (i_eq0 (by omega)).mpr c42
                                            have n41 : Hd (¬ x1 = 7825519) := Hd.mk (fun h9 => c42 (hz41b.mpr h9))
                                            clear hz41 hz41b hz41c gz41 c42
                                            refine lv_lload_n hx hb (dk_at dkX12_isOwn_5 12 rfl) rfl (lv_at hl 1 rfl) ?_
                                            refine lv_ldc2 (v := 1936748404) hx hb hown (hts _ (List.mem_cons_of_mem _ wlq_1_5)) (dk_at dkX12_isOwn_5 13 rfl) ?_
                                            refine tp_l (y := jI 1936748404) (by decide +kernel) ?_
                                            refine x_lcmp hx hb (dk_at dkX12_isOwn_5 14 rfl) (by omega) (by omega) (fun z43 hz43 hz43b hz43c => ?_)
                                            have gz43 := Hd.mk (And.intro hz43 (And.intro hz43b hz43c))
                                            refine lv_if_eq (tgt := 208) hx hb (dk_at dkX12_isOwn_5 15 rfl) (by decide) (fun c44 => ?_) (fun c44 => ?_)
                                            · have c44 : z43 = 0 := (i_eq0 (by omega)).mp c44
                                              refine lv_iconst (v := iI 1) hx hb (dk_at dkX12_isOwn_6 12 rfl) (by decide +kernel) ?_
                                              exact RET 1 _ _ _ _ _ ⟨rfl, (u_r_X12_isOwn trivial), ⟨by decide, by unfold ownz; rw [if_pos (by exact Or.inr (Or.inr (Or.inr (Or.inr (Or.inr (Or.inr (Or.inr (Or.inr (Or.inr (Or.inr (Or.inr (Or.inr (Or.inr (Or.inr (Or.inr (Or.inr (Or.inr (Or.inr (Or.inr (Or.inr (Or.inr (Or.inl (hz43b.mp c44)))))))))))))))))))))))]⟩⟩ hP hS (dk_at dkX12_isOwn_6 13 rfl)
                                            · have c44 : ¬ z43 = 0 := mt (i_eq0 (by omega)).mpr c44
                                              have n43 : Hd (¬ x1 = 1936748404) := Hd.mk (fun h9 => c44 (hz43b.mpr h9))
                                              clear hz43 hz43b hz43c gz43 c44
                                              refine lv_lload_n hx hb (dk_at dkX12_isOwn_6 0 rfl) rfl (lv_at hl 1 rfl) ?_
                                              refine lv_ldc2 (v := 1801812339) hx hb hown (hts _ (List.mem_cons_of_mem _ wlq_1_6)) (dk_at dkX12_isOwn_6 1 rfl) ?_
                                              refine tp_l (y := jI 1801812339) (by decide +kernel) ?_
                                              refine x_lcmp hx hb (dk_at dkX12_isOwn_6 2 rfl) (by omega) (by omega) (fun z45 hz45 hz45b hz45c => ?_)
                                              have gz45 := Hd.mk (And.intro hz45 (And.intro hz45b hz45c))
                                              refine lv_if_eq (tgt := 208) hx hb (dk_at dkX12_isOwn_6 3 rfl) (by decide) (fun c46 => ?_) (fun c46 => ?_)
                                              · have c46 : z45 = 0 := (i_eq0 (by omega)).mp c46
                                                refine lv_iconst (v := iI 1) hx hb (dk_at dkX12_isOwn_6 12 rfl) (by decide +kernel) ?_
                                                exact RET 1 _ _ _ _ _ ⟨rfl, (u_r_X12_isOwn trivial), ⟨by decide, by unfold ownz; rw [if_pos (by exact Or.inr (Or.inr (Or.inr (Or.inr (Or.inr (Or.inr (Or.inr (Or.inr (Or.inr (Or.inr (Or.inr (Or.inr (Or.inr (Or.inr (Or.inr (Or.inr (Or.inr (Or.inr (Or.inr (Or.inr (Or.inr (Or.inr (Or.inl (hz45b.mp c46))))))))))))))))))))))))]⟩⟩ hP hS (dk_at dkX12_isOwn_6 13 rfl)
                                              · have c46 : ¬ z45 = 0 := mt (i_eq0 (by omega)).mpr c46
                                                have n45 : Hd (¬ x1 = 1801812339) := Hd.mk (fun h9 => c46 (hz45b.mpr h9))
                                                clear hz45 hz45b hz45c gz45 c46
                                                refine lv_lload_n hx hb (dk_at dkX12_isOwn_6 4 rfl) rfl (lv_at hl 1 rfl) ?_
                                                refine lv_ldc2 (v := 109317377451364) hx hb hown (hts _ (List.mem_cons_of_mem _ wlq_1_7)) (dk_at dkX12_isOwn_6 5 rfl) ?_
                                                refine tp_l (y := jI 109317377451364) (by decide +kernel) ?_
                                                refine x_lcmp hx hb (dk_at dkX12_isOwn_6 6 rfl) (by omega) (by omega) (fun z47 hz47 hz47b hz47c => ?_)
                                                have gz47 := Hd.mk (And.intro hz47 (And.intro hz47b hz47c))
                                                refine lv_if_eq (tgt := 208) hx hb (dk_at dkX12_isOwn_6 7 rfl) (by decide) (fun c48 => ?_) (fun c48 => ?_)
                                                · have c48 : z47 = 0 := (i_eq0 (by omega)).mp c48
                                                  refine lv_iconst (v := iI 1) hx hb (dk_at dkX12_isOwn_6 12 rfl) (by decide +kernel) ?_
                                                  exact RET 1 _ _ _ _ _ ⟨rfl, (u_r_X12_isOwn trivial), ⟨by decide, by unfold ownz; rw [if_pos (by exact Or.inr (Or.inr (Or.inr (Or.inr (Or.inr (Or.inr (Or.inr (Or.inr (Or.inr (Or.inr (Or.inr (Or.inr (Or.inr (Or.inr (Or.inr (Or.inr (Or.inr (Or.inr (Or.inr (Or.inr (Or.inr (Or.inr (Or.inr (Or.inl (hz47b.mp c48)))))))))))))))))))))))))]⟩⟩ hP hS (dk_at dkX12_isOwn_6 13 rfl)
                                                · have c48 : ¬ z47 = 0 := mt (i_eq0 (by omega)).mpr c48
                                                  have n47 : Hd (¬ x1 = 109317377451364) := Hd.mk (fun h9 => c48 (hz47b.mpr h9))
                                                  clear hz47 hz47b hz47c gz47 c48
                                                  refine lv_lload_n hx hb (dk_at dkX12_isOwn_6 8 rfl) rfl (lv_at hl 1 rfl) ?_
                                                  refine lv_ldc2 (v := 7170414) hx hb hown (hts _ (List.mem_cons_of_mem _ wlq_1_8)) (dk_at dkX12_isOwn_6 9 rfl) ?_
                                                  refine tp_l (y := jI 7170414) (by decide +kernel) ?_
                                                  refine x_lcmp hx hb (dk_at dkX12_isOwn_6 10 rfl) (by omega) (by omega) (fun z49 hz49 hz49b hz49c => ?_)
                                                  have gz49 := Hd.mk (And.intro hz49 (And.intro hz49b hz49c))
                                                  refine lv_if_ne (tgt := 210) hx hb (dk_at dkX12_isOwn_6 11 rfl) (by decide) (fun c50 => ?_) (fun c50 => ?_)
                                                  · have c50 : ¬ z49 = 0 := mt (i_eq0 (by omega)).mpr c50
                                                    have n49 : Hd (¬ x1 = 7170414) := Hd.mk (fun h9 => c50 (hz49b.mpr h9))
                                                    clear hz49 hz49b hz49c gz49 c50
                                                    refine lv_lload_n hx hb (dk_at dkX12_isOwn_6 14 rfl) rfl (lv_at hl 1 rfl) ?_
                                                    refine lv_ldc2 (v := 7168376) hx hb hown (hts _ (List.mem_cons_of_mem _ wlq_1_9)) (dk_at dkX12_isOwn_6 15 rfl) ?_
                                                    refine tp_l (y := jI 7168376) (by decide +kernel) ?_
                                                    refine x_lcmp hx hb (dk_at dkX12_isOwn_7 0 rfl) (by omega) (by omega) (fun z51 hz51 hz51b hz51c => ?_)
                                                    have gz51 := Hd.mk (And.intro hz51 (And.intro hz51b hz51c))
                                                    refine lv_if_ne (tgt := 220) hx hb (dk_at dkX12_isOwn_7 1 rfl) (by decide) (fun c52 => ?_) (fun c52 => ?_)
                                                    · have c52 : ¬ z51 = 0 := mt (i_eq0 (by omega)).mpr c52
                                                      have n51 : Hd (¬ x1 = 7168376) := Hd.mk (fun h9 => c52 (hz51b.mpr h9))
                                                      clear hz51 hz51b hz51c gz51 c52
                                                      refine lv_iconst (v := iI 0) hx hb (dk_at dkX12_isOwn_7 4 rfl) (by decide +kernel) ?_
                                                      exact RET 0 _ _ _ _ _ ⟨rfl, (u_r_X12_isOwn trivial), ⟨by decide, by unfold ownz; rw [if_neg (by intro h9; exact h9.elim n1.out fun h9 => h9.elim n3.out fun h9 => h9.elim n5.out fun h9 => h9.elim n7.out fun h9 => h9.elim n9.out fun h9 => h9.elim n11.out fun h9 => h9.elim n13.out fun h9 => h9.elim n15.out fun h9 => h9.elim n17.out fun h9 => h9.elim n19.out fun h9 => h9.elim n21.out fun h9 => h9.elim n23.out fun h9 => h9.elim n25.out fun h9 => h9.elim n27.out fun h9 => h9.elim n29.out fun h9 => h9.elim n31.out fun h9 => h9.elim n33.out fun h9 => h9.elim n35.out fun h9 => h9.elim n37.out fun h9 => h9.elim n39.out fun h9 => h9.elim n41.out fun h9 => h9.elim n43.out fun h9 => h9.elim n45.out fun h9 => h9.elim n47.out fun h9 => h9.elim n49.out fun h9 => n51.out h9)]⟩⟩ hP hS (dk_at dkX12_isOwn_7 5 rfl)
                                                    · have c52 : z51 = 0 := (i_eq0 (by omega)).mp c52
                                                      refine lv_iconst (v := iI 1) hx hb (dk_at dkX12_isOwn_7 2 rfl) (by decide +kernel) ?_
                                                      exact RET 1 _ _ _ _ _ ⟨rfl, (u_r_X12_isOwn trivial), ⟨by decide, by unfold ownz; rw [if_pos (by exact Or.inr (Or.inr (Or.inr (Or.inr (Or.inr (Or.inr (Or.inr (Or.inr (Or.inr (Or.inr (Or.inr (Or.inr (Or.inr (Or.inr (Or.inr (Or.inr (Or.inr (Or.inr (Or.inr (Or.inr (Or.inr (Or.inr (Or.inr (Or.inr (Or.inr (hz51b.mp c52))))))))))))))))))))))))))]⟩⟩ hP hS (dk_at dkX12_isOwn_7 3 rfl)
                                                  · have c50 : z49 = 0 := (i_eq0 (by omega)).mp c50
                                                    refine lv_iconst (v := iI 1) hx hb (dk_at dkX12_isOwn_6 12 rfl) (by decide +kernel) ?_
                                                    exact RET 1 _ _ _ _ _ ⟨rfl, (u_r_X12_isOwn trivial), ⟨by decide, by unfold ownz; rw [if_pos (by exact Or.inr (Or.inr (Or.inr (Or.inr (Or.inr (Or.inr (Or.inr (Or.inr (Or.inr (Or.inr (Or.inr (Or.inr (Or.inr (Or.inr (Or.inr (Or.inr (Or.inr (Or.inr (Or.inr (Or.inr (Or.inr (Or.inr (Or.inr (Or.inr (Or.inl (hz49b.mp c50))))))))))))))))))))))))))]⟩⟩ hP hS (dk_at dkX12_isOwn_6 13 rfl)
                                        · have c40 : z39 = 0 := (i_eq0 (by omega)).mp c40
                                          refine lv_iconst (v := iI 1) hx hb (dk_at dkX12_isOwn_5 6 rfl) (by decide +kernel) ?_
                                          exact RET 1 _ _ _ _ _ ⟨rfl, (u_r_X12_isOwn trivial), ⟨by decide, by unfold ownz; rw [if_pos (by exact Or.inr (Or.inr (Or.inr (Or.inr (Or.inr (Or.inr (Or.inr (Or.inr (Or.inr (Or.inr (Or.inr (Or.inr (Or.inr (Or.inr (Or.inr (Or.inr (Or.inr (Or.inr (Or.inr (Or.inl (hz39b.mp c40)))))))))))))))))))))]⟩⟩ hP hS (dk_at dkX12_isOwn_5 7 rfl)
                              · have c30 : z29 = 0 := (i_eq0 (by omega)).mp c30
                                refine lv_iconst (v := iI 1) hx hb (dk_at dkX12_isOwn_4 0 rfl) (by decide +kernel) ?_
                                exact RET 1 _ _ _ _ _ ⟨rfl, (u_r_X12_isOwn trivial), ⟨by decide, by unfold ownz; rw [if_pos (by exact Or.inr (Or.inr (Or.inr (Or.inr (Or.inr (Or.inr (Or.inr (Or.inr (Or.inr (Or.inr (Or.inr (Or.inr (Or.inr (Or.inr (Or.inl (hz29b.mp c30))))))))))))))))]⟩⟩ hP hS (dk_at dkX12_isOwn_4 1 rfl)
                    · have c20 : z19 = 0 := (i_eq0 (by omega)).mp c20
                      refine lv_iconst (v := iI 1) hx hb (dk_at dkX12_isOwn_2 10 rfl) (by decide +kernel) ?_
                      exact RET 1 _ _ _ _ _ ⟨rfl, (u_r_X12_isOwn trivial), ⟨by decide, by unfold ownz; rw [if_pos (by exact Or.inr (Or.inr (Or.inr (Or.inr (Or.inr (Or.inr (Or.inr (Or.inr (Or.inr (Or.inl (hz19b.mp c20)))))))))))]⟩⟩ hP hS (dk_at dkX12_isOwn_2 11 rfl)
          · have c10 : z9 = 0 := (i_eq0 (by omega)).mp c10
            refine lv_iconst (v := iI 1) hx hb (dk_at dkX12_isOwn_1 4 rfl) (by decide +kernel) ?_
            exact RET 1 _ _ _ _ _ ⟨rfl, (u_r_X12_isOwn trivial), ⟨by decide, by unfold ownz; rw [if_pos (by exact Or.inr (Or.inr (Or.inr (Or.inr (Or.inl (hz9b.mp c10))))))]⟩⟩ hP hS (dk_at dkX12_isOwn_1 5 rfl)
