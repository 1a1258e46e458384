def rqm (k b : Nat) : Room := { frames := 10 * (9 - b) + k + 5, cells := 0, slots := 0, locals := 400 * (9 - b) + 40 * k }

def ws_kc_X5_readTest : List Cond := .code yX5_readTest cX5_readTest 3 (some .boolean) :: WY

def ws_kc_X5_readBoth : List Cond := .code yX5_readBoth cX5_readBoth 3 (some .boolean) :: WY

def ws_kc_X5_readFact : List Cond := .code yX5_readFact cX5_readFact 5 (some .boolean) :: WY

def ws_kc_X5_readSum : List Cond := .code yX5_readSum cX5_readSum 4 (some .boolean) :: WY

def ws_kc_X5_readProduct : List Cond := .code yX5_readProduct cX5_readProduct 4 (some .boolean) :: WY

def ws_kc_X5_readPart : List Cond := .code yX5_readPart cX5_readPart 2 (some .boolean) :: WY

def ws_kc_X5_readPair : List Cond := .code yX5_readPair cX5_readPair 2 (some .boolean) :: WY

def q_SS_sum (SS : St → Int → St → Prop) (A : St) (z : Int) (u : St) : Prop := SS A z u ∧ IK u ∧ fk [71, 102] [(3, 2), (3, 3), (3, 4), (5, 1), (5, 2), (5, 3), (5, 4), (5, 5), (5, 6), (70, 2), (101, 2)] A u ∧ ((0 ≤ z ∧ z ≤ 1) ∧ (z = 1 → u 3 4 = A 3 4))

def q_SS_test (SS : St → Int → St → Prop) (A : St) (z : Int) (u : St) : Prop := SS A z u ∧ IK u ∧ fk [71, 102] [(3, 2), (3, 3), (3, 4), (5, 1), (5, 2), (5, 3), (5, 4), (5, 5), (5, 6), (70, 2), (101, 2)] A u ∧ ((0 ≤ z ∧ z ≤ 1) ∧ (z = 1 → u 3 4 = A 3 4))

abbrev tr_r_X5_readPair (SS : St → Int → St → Prop) (b : Nat) (ta : Nat) (A : St) (z : Int) (u : St) : Prop := (∃ z1 : Int, ∃ A2 : St, q_X5_sign 40 A z1 A2 ∧ (((z1 = 0) ∧ (z = 0 ∧ u = A2)) ∨ ((¬ z1 = 0) ∧ (∃ z10 : Int, ∃ A11 : St, q_X5_enter A2 z10 A11 ∧ (((z10 = 0) ∧ (z = 0 ∧ u = A11)) ∨ ((¬ z10 = 0) ∧ (∃ z16 : Int, ∃ A17 : St, q_SS_sum SS A11 z16 A17 ∧ (((z16 = 0) ∧ (z = 0 ∧ u = A17)) ∨ ((¬ z16 = 0) ∧ (∃ z22 : Int, ∃ A23 : St, q_X5_sign 44 A17 z22 A23 ∧ (((z22 = 0) ∧ (z = 0 ∧ u = A23)) ∨ ((¬ z22 = 0) ∧ (∃ z29 : Int, ∃ A30 : St, q_SS_sum SS A23 z29 A30 ∧ (((z29 = 0) ∧ (z = 0 ∧ u = A30)) ∨ ((¬ z29 = 0) ∧ (∃ z35 : Int, ∃ A36 : St, q_X5_sign 41 A30 z35 A36 ∧ (((z35 = 0) ∧ (z = 0 ∧ u = A36)) ∨ ((¬ z35 = 0) ∧ (∃ z42 : Int, ∃ A43 : St, q_X5_leave A36 z42 A43 ∧ (z = 1 ∧ u = A43))))))))))))))))))))
def r_X5_readPair (SS : St → Int → St → Prop) (b : Nat) (ta : Nat) (A : St) (z : Int) (u : St) : Prop := tr_r_X5_readPair SS b ta A z u
theorem u_r_X5_readPair {SS : St → Int → St → Prop} {b : Nat} {ta : Nat} {A : St} {z : Int} {u : St} (h : tr_r_X5_readPair SS b ta A z u) : r_X5_readPair SS b ta A z u := h
def q_X5_readPair (SS : St → Int → St → Prop) (b : Nat) (ta : Nat) (A : St) (z : Int) (u : St) : Prop := r_X5_readPair SS b ta A z u ∧ IK u ∧ fk [71, 102] [(3, 2), (3, 3), (3, 4), (5, 1), (5, 2), (5, 3), (5, 4), (5, 5), (5, 6), (70, 2), (101, 2)] A u ∧ ((0 ≤ z ∧ z ≤ 1) ∧ (z = 1 → u 3 4 = A 3 4))
set_option maxHeartbeats 4000000 in
set_option maxRecDepth 100000 in
theorem kc_X5_readPair (l : Launch) (dC : Nat → ClassId) (dI : Nat → Nat → Nat) (cB cI cJ cZ cQ : ClassId) (aL aS : Nat) (q : Nat → Nat) (SS : St → Int → St → Prop) (b : Nat) (A : St) (ta : Nat) (hI : IK A) (hta : isE ta) (hp0 : A 3 4 = (b : Int)) (hp1 : b ≤ 8) (IHs : ∀ A : St, IK A → A 3 4 = (b : Int) + 1 → b + 1 ≤ 8 → KMi l yX5_readSum ws_kc_X5_readSum (rqm 4 (b + 1)) aL aS (dC, dI) (tyA cB cI cJ cZ cQ) (WK cB cI cJ cZ cQ q) A [.ref (q 3), .ref (q ta)] (fun z u => SS A z u ∧ IK u ∧ fk [71, 102] [(3, 2), (3, 3), (3, 4), (5, 1), (5, 2), (5, 3), (5, 4), (5, 5), (5, 6), (70, 2), (101, 2)] A u ∧ ((0 ≤ z ∧ z ≤ 1) ∧ (z = 1 → u 3 4 = A 3 4)))) : KMi l yX5_readPair ws_kc_X5_readPair (rqm 1 b) aL aS (dC, dI) (tyA cB cI cJ cZ cQ) (WK cB cI cJ cZ cQ q) A [.ref (q 3), .ref (q ta)] (fun z u => r_X5_readPair SS b ta A z u ∧ IK u ∧ fk [71, 102] [(3, 2), (3, 3), (3, 4), (5, 1), (5, 2), (5, 3), (5, 4), (5, 5), (5, 6), (70, 2), (101, 2)] A u ∧ ((0 ≤ z ∧ z ≤ 1) ∧ (z = 1 → u 3 4 = A 3 4))) := by
  refine k_metz (cc := cX5_readPair) (maxL := 2) WK_adr (plainFor_of_name (by decide +kernel)) rfl (Nat.le_of_ble_eq_true rfl) (fun z u h => h.2.2.2.1) (fun p e s m below meth c Q AS ls hx hb hml hown hts hK hDD hA0 hE RET H locs hP hS hl => ?_)
  have hown : s.vm.findClass RX5 = some m.cls := hown
  have hl : lv_has ls 2 [(0, .ref (q 3)), (1, .ref (q ta))] := hl
  refine lv_aload_n hx hb (dk_at dkX5_readPair_0 0 rfl) rfl (lv_at hl 0 rfl) ?_
  refine lv_bipush (v := iI 40) hx hb (dk_at dkX5_readPair_0 1 rfl) (by decide +kernel) ?_
  refine k_calli (As := [.int (iI 40)]) (rest := []) ⟨hx, hb, hml, hown, hts⟩ hE (kc_X5_sign l dC dI cB cI cJ cZ cQ aL aS q _ 40 hI ⟨by decide, by decide⟩) (cwV 1 hts (goodVk wkq_7_53 wkq_7_54 wkq_7_55 wkq_5_28 wkq_7_56) rfl rfl rfl (by decide +kernel) ⟨by show (2) + 1 ≤ 10 * (9 - b) + 6; omega, by show 8 + (2 + 11) + (45) ≤ 400 * (9 - b) + 40; omega⟩) hK hDD hA0 hP hS 3 5 (wkRD) rfl rfl hl.1 (Nat.le_of_ble_eq_true rfl) (dk_at dkX5_readPair_0 2 rfl) (fun z1 A2 H locs hw3 hP hS => ?_)
  have ghw3 : q_X5_sign 40 A z1 A2 := hw3
  obtain ⟨_, hI, hf4, hw3⟩ := hw3
  refine lv_if_eq (tgt := 61) hx hb (dk_at dkX5_readPair_0 3 rfl) (by decide) (fun c5 => ?_) (fun c5 => ?_)
  · have c5 : z1 = 0 := (i_eq0 (rb hw3 (by decide) (by decide))).mp c5
    refine lv_iconst (v := iI 0) hx hb (dk_at dkX5_readPair_1 12 rfl) (by decide +kernel) ?_
    have e6 : A2 3 4 = (A 3 4) := (hf4 3 4 rfl rfl)
    have r7 : (0 : Int) ≤ (A 3 4) ∧ (A 3 4) ≤ 8 := by rw [← e6]; exact irRD_4 hI
    exact RET 0 _ _ _ _ _ ⟨(u_r_X5_readPair ⟨z1, A2, ghw3, (Or.inl ⟨c5, ⟨rfl, rfl⟩⟩)⟩), hI, fk.trans (fk.rf) hf4 rfl rfl, by omega⟩ hP hS (dk_at dkX5_readPair_1 13 rfl)
  · have c5 : ¬ z1 = 0 := mt (i_eq0 (rb hw3 (by decide) (by decide))).mpr c5
    refine lv_aload_n hx hb (dk_at dkX5_readPair_0 4 rfl) rfl (lv_at hl 0 rfl) ?_
    have e8 : A2 3 4 = (A 3 4) := (hf4 3 4 rfl rfl)
    have r9 : (0 : Int) ≤ (A 3 4) ∧ (A 3 4) ≤ 8 := by rw [← e8]; exact irRD_4 hI
    refine k_calli (As := []) (rest := []) ⟨hx, hb, hml, hown, hts⟩ hE (kc_X5_enter l dC dI cB cI cJ cZ cQ aL aS q _ hI) (cwV 0 hts (goodVk wkq_7_49 wkq_7_50 wkq_7_51 wkq_5_28 wkq_7_52) rfl rfl rfl (by decide +kernel) ⟨by show (1) + 1 ≤ 10 * (9 - b) + 6; omega, by show 8 + (1 + 11) + (21) ≤ 400 * (9 - b) + 40; omega⟩) hK hDD hA0 hP hS 3 5 (wkRD) rfl rfl hl.1 (Nat.le_of_ble_eq_true rfl) (dk_at dkX5_readPair_0 5 rfl) (fun z10 A11 H locs hw12 hP hS => ?_)
    have ghw12 : q_X5_enter A2 z10 A11 := hw12
    obtain ⟨_, hI, hf13, hw12⟩ := hw12
    have r14 : (0 : Int) ≤ (A11 3 4) ∧ (A11 3 4) ≤ 8 := irRD_4 hI
    have rz10 : 0 ≤ z10 ∧ z10 ≤ 1 := hw12.1
    have hw12 := hw12.2
    refine lv_if_eq (tgt := 61) hx hb (dk_at dkX5_readPair_0 6 rfl) (by decide) (fun c15 => ?_) (fun c15 => ?_)
    · have c15 : z10 = 0 := (i_eq0 (rb rz10 (by decide) (by decide))).mp c15
      clear hw12
      refine lv_iconst (v := iI 0) hx hb (dk_at dkX5_readPair_1 12 rfl) (by decide +kernel) ?_
      exact RET 0 _ _ _ _ _ ⟨(u_r_X5_readPair ⟨z1, A2, ghw3, (Or.inr ⟨c5, ⟨z10, A11, ghw12, (Or.inl ⟨c15, ⟨rfl, rfl⟩⟩)⟩⟩)⟩), hI, fk.trans (fk.trans (fk.rf) hf4 rfl rfl) hf13 rfl rfl, by omega⟩ hP hS (dk_at dkX5_readPair_1 13 rfl)
    · have c15 : ¬ z10 = 0 := mt (i_eq0 (rb rz10 (by decide) (by decide))).mpr c15
      have hw12b := hw12 (by omega)
      clear hw12
      refine lv_aload_n hx hb (dk_at dkX5_readPair_0 7 rfl) rfl (lv_at hl 0 rfl) ?_
      refine lv_aload_n hx hb (dk_at dkX5_readPair_0 8 rfl) rfl (lv_at hl 1 rfl) ?_
      refine k_calli (As := [.ref (q ta)]) (rest := []) ⟨hx, hb, hml, hown, hts⟩ hE (IHs _ hI (by omega) (by omega)) (cwV 1 hts (goodVk wkq_8_1 wkq_8_2 wkq_8_3 wkq_5_28 wkq_8_4) rfl rfl rfl (by decide +kernel) ⟨by show (10 * (9 - (b + 1)) + 9) + 1 ≤ 10 * (9 - b) + 6; omega, by show 8 + (4 + 11) + (400 * (9 - (b + 1)) + 160) ≤ 400 * (9 - b) + 40; omega⟩) hK hDD hA0 hP hS 3 5 (wkRD) rfl rfl hl.1 (Nat.le_of_ble_eq_true rfl) (dk_at dkX5_readPair_0 9 rfl) (fun z16 A17 H locs hw18 hP hS => ?_)
      have ghw18 : q_SS_sum SS A11 z16 A17 := hw18
      obtain ⟨_, hI, hf19, hw18⟩ := hw18
      have r20 : (0 : Int) ≤ (A17 3 4) ∧ (A17 3 4) ≤ 8 := irRD_4 hI
      have rz16 : 0 ≤ z16 ∧ z16 ≤ 1 := hw18.1
      have hw18 := hw18.2
      refine lv_if_eq (tgt := 61) hx hb (dk_at dkX5_readPair_0 10 rfl) (by decide) (fun c21 => ?_) (fun c21 => ?_)
      · have c21 : z16 = 0 := (i_eq0 (rb rz16 (by decide) (by decide))).mp c21
        clear hw18
        refine lv_iconst (v := iI 0) hx hb (dk_at dkX5_readPair_1 12 rfl) (by decide +kernel) ?_
        exact RET 0 _ _ _ _ _ ⟨(u_r_X5_readPair ⟨z1, A2, ghw3, (Or.inr ⟨c5, ⟨z10, A11, ghw12, (Or.inr ⟨c15, ⟨z16, A17, ghw18, (Or.inl ⟨c21, ⟨rfl, rfl⟩⟩)⟩⟩)⟩⟩)⟩), hI, fk.trans (fk.trans (fk.trans (fk.rf) hf4 rfl rfl) hf13 rfl rfl) hf19 rfl rfl, by omega⟩ hP hS (dk_at dkX5_readPair_1 13 rfl)
      · have c21 : ¬ z16 = 0 := mt (i_eq0 (rb rz16 (by decide) (by decide))).mpr c21
        have hw18b := hw18 (by omega)
        clear hw18
        refine lv_aload_n hx hb (dk_at dkX5_readPair_0 11 rfl) rfl (lv_at hl 0 rfl) ?_
        refine lv_bipush (v := iI 44) hx hb (dk_at dkX5_readPair_0 12 rfl) (by decide +kernel) ?_
        refine k_calli (As := [.int (iI 44)]) (rest := []) ⟨hx, hb, hml, hown, hts⟩ hE (kc_X5_sign l dC dI cB cI cJ cZ cQ aL aS q _ 44 hI ⟨by decide, by decide⟩) (cwV 1 hts (goodVk wkq_7_53 wkq_7_54 wkq_7_55 wkq_5_28 wkq_7_56) rfl rfl rfl (by decide +kernel) ⟨by show (2) + 1 ≤ 10 * (9 - b) + 6; omega, by show 8 + (2 + 11) + (45) ≤ 400 * (9 - b) + 40; omega⟩) hK hDD hA0 hP hS 3 5 (wkRD) rfl rfl hl.1 (Nat.le_of_ble_eq_true rfl) (dk_at dkX5_readPair_0 13 rfl) (fun z22 A23 H locs hw24 hP hS => ?_)
        have ghw24 : q_X5_sign 44 A17 z22 A23 := hw24
        obtain ⟨_, hI, hf25, hw24⟩ := hw24
        refine lv_if_eq (tgt := 61) hx hb (dk_at dkX5_readPair_0 14 rfl) (by decide) (fun c26 => ?_) (fun c26 => ?_)
        · have c26 : z22 = 0 := (i_eq0 (rb hw24 (by decide) (by decide))).mp c26
          refine lv_iconst (v := iI 0) hx hb (dk_at dkX5_readPair_1 12 rfl) (by decide +kernel) ?_
          have e27 : A23 3 4 = (A17 3 4) := (hf25 3 4 rfl rfl)
          exact RET 0 _ _ _ _ _ ⟨(u_r_X5_readPair ⟨z1, A2, ghw3, (Or.inr ⟨c5, ⟨z10, A11, ghw12, (Or.inr ⟨c15, ⟨z16, A17, ghw18, (Or.inr ⟨c21, ⟨z22, A23, ghw24, (Or.inl ⟨c26, ⟨rfl, rfl⟩⟩)⟩⟩)⟩⟩)⟩⟩)⟩), hI, fk.trans (fk.trans (fk.trans (fk.trans (fk.rf) hf4 rfl rfl) hf13 rfl rfl) hf19 rfl rfl) hf25 rfl rfl, by omega⟩ hP hS (dk_at dkX5_readPair_1 13 rfl)
        · have c26 : ¬ z22 = 0 := mt (i_eq0 (rb hw24 (by decide) (by decide))).mpr c26
          refine lv_aload_n hx hb (dk_at dkX5_readPair_0 15 rfl) rfl (lv_at hl 0 rfl) ?_
          refine lv_aload_n hx hb (dk_at dkX5_readPair_1 0 rfl) rfl (lv_at hl 1 rfl) ?_
          have e28 : A23 3 4 = (A17 3 4) := (hf25 3 4 rfl rfl)
          refine k_calli (As := [.ref (q ta)]) (rest := []) ⟨hx, hb, hml, hown, hts⟩ hE (IHs _ hI (by omega) (by omega)) (cwV 1 hts (goodVk wkq_8_1 wkq_8_2 wkq_8_3 wkq_5_28 wkq_8_4) rfl rfl rfl (by decide +kernel) ⟨by show (10 * (9 - (b + 1)) + 9) + 1 ≤ 10 * (9 - b) + 6; omega, by show 8 + (4 + 11) + (400 * (9 - (b + 1)) + 160) ≤ 400 * (9 - b) + 40; omega⟩) hK hDD hA0 hP hS 3 5 (wkRD) rfl rfl hl.1 (Nat.le_of_ble_eq_true rfl) (dk_at dkX5_readPair_1 1 rfl) (fun z29 A30 H locs hw31 hP hS => ?_)
          have ghw31 : q_SS_sum SS A23 z29 A30 := hw31
          obtain ⟨_, hI, hf32, hw31⟩ := hw31
          have r33 : (0 : Int) ≤ (A30 3 4) ∧ (A30 3 4) ≤ 8 := irRD_4 hI
          have rz29 : 0 ≤ z29 ∧ z29 ≤ 1 := hw31.1
          have hw31 := hw31.2
          refine lv_if_eq (tgt := 61) hx hb (dk_at dkX5_readPair_1 2 rfl) (by decide) (fun c34 => ?_) (fun c34 => ?_)
          · have c34 : z29 = 0 := (i_eq0 (rb rz29 (by decide) (by decide))).mp c34
            clear hw31
            refine lv_iconst (v := iI 0) hx hb (dk_at dkX5_readPair_1 12 rfl) (by decide +kernel) ?_
            exact RET 0 _ _ _ _ _ ⟨(u_r_X5_readPair ⟨z1, A2, ghw3, (Or.inr ⟨c5, ⟨z10, A11, ghw12, (Or.inr ⟨c15, ⟨z16, A17, ghw18, (Or.inr ⟨c21, ⟨z22, A23, ghw24, (Or.inr ⟨c26, ⟨z29, A30, ghw31, (Or.inl ⟨c34, ⟨rfl, rfl⟩⟩)⟩⟩)⟩⟩)⟩⟩)⟩⟩)⟩), hI, fk.trans (fk.trans (fk.trans (fk.trans (fk.trans (fk.rf) hf4 rfl rfl) hf13 rfl rfl) hf19 rfl rfl) hf25 rfl rfl) hf32 rfl rfl, by omega⟩ hP hS (dk_at dkX5_readPair_1 13 rfl)
          · have c34 : ¬ z29 = 0 := mt (i_eq0 (rb rz29 (by decide) (by decide))).mpr c34
            have hw31b := hw31 (by omega)
            clear hw31
            refine lv_aload_n hx hb (dk_at dkX5_readPair_1 3 rfl) rfl (lv_at hl 0 rfl) ?_
            refine lv_bipush (v := iI 41) hx hb (dk_at dkX5_readPair_1 4 rfl) (by decide +kernel) ?_
            refine k_calli (As := [.int (iI 41)]) (rest := []) ⟨hx, hb, hml, hown, hts⟩ hE (kc_X5_sign l dC dI cB cI cJ cZ cQ aL aS q _ 41 hI ⟨by decide, by decide⟩) (cwV 1 hts (goodVk wkq_7_53 wkq_7_54 wkq_7_55 wkq_5_28 wkq_7_56) rfl rfl rfl (by decide +kernel) ⟨by show (2) + 1 ≤ 10 * (9 - b) + 6; omega, by show 8 + (2 + 11) + (45) ≤ 400 * (9 - b) + 40; omega⟩) hK hDD hA0 hP hS 3 5 (wkRD) rfl rfl hl.1 (Nat.le_of_ble_eq_true rfl) (dk_at dkX5_readPair_1 5 rfl) (fun z35 A36 H locs hw37 hP hS => ?_)
            have ghw37 : q_X5_sign 41 A30 z35 A36 := hw37
            obtain ⟨_, hI, hf38, hw37⟩ := hw37
            refine lv_if_eq (tgt := 61) hx hb (dk_at dkX5_readPair_1 6 rfl) (by decide) (fun c39 => ?_) (fun c39 => ?_)
            · have c39 : z35 = 0 := (i_eq0 (rb hw37 (by decide) (by decide))).mp c39
              refine lv_iconst (v := iI 0) hx hb (dk_at dkX5_readPair_1 12 rfl) (by decide +kernel) ?_
              have e40 : A36 3 4 = (A30 3 4) := (hf38 3 4 rfl rfl)
              exact RET 0 _ _ _ _ _ ⟨(u_r_X5_readPair ⟨z1, A2, ghw3, (Or.inr ⟨c5, ⟨z10, A11, ghw12, (Or.inr ⟨c15, ⟨z16, A17, ghw18, (Or.inr ⟨c21, ⟨z22, A23, ghw24, (Or.inr ⟨c26, ⟨z29, A30, ghw31, (Or.inr ⟨c34, ⟨z35, A36, ghw37, (Or.inl ⟨c39, ⟨rfl, rfl⟩⟩)⟩⟩)⟩⟩)⟩⟩)⟩⟩)⟩⟩)⟩), hI, fk.trans (fk.trans (fk.trans (fk.trans (fk.trans (fk.trans (fk.rf) hf4 rfl rfl) hf13 rfl rfl) hf19 rfl rfl) hf25 rfl rfl) hf32 rfl rfl) hf38 rfl rfl, by omega⟩ hP hS (dk_at dkX5_readPair_1 13 rfl)
            · have c39 : ¬ z35 = 0 := mt (i_eq0 (rb hw37 (by decide) (by decide))).mpr c39
              refine lv_aload_n hx hb (dk_at dkX5_readPair_1 7 rfl) rfl (lv_at hl 0 rfl) ?_
              have e41 : A36 3 4 = (A30 3 4) := (hf38 3 4 rfl rfl)
              refine k_calli (As := []) (rest := []) ⟨hx, hb, hml, hown, hts⟩ hE (kc_X5_leave l dC dI cB cI cJ cZ cQ aL aS q _ hI (by omega)) (cwV 0 hts (goodVk wkq_7_57 wkq_7_58 wkq_7_59 wkq_5_28 wkq_8_0) rfl rfl rfl (by decide +kernel) ⟨by show (0) + 1 ≤ 10 * (9 - b) + 6; omega, by show 8 + (1 + 11) + (0) ≤ 400 * (9 - b) + 40; omega⟩) hK hDD hA0 hP hS 3 5 (wkRD) rfl rfl hl.1 (Nat.le_of_ble_eq_true rfl) (dk_at dkX5_readPair_1 8 rfl) (fun z42 A43 H locs hw44 hP hS => ?_)
              have ghw44 : q_X5_leave A36 z42 A43 := hw44
              obtain ⟨_, hI, hf45, hw44⟩ := hw44
              have r46 : (0 : Int) ≤ (A43 3 4) ∧ (A43 3 4) ≤ 8 := irRD_4 hI
              have rz42 : 0 ≤ z42 ∧ z42 ≤ 1 := hw44.1
              have hw44 := hw44.2
              refine lv_if_eq (tgt := 61) hx hb (dk_at dkX5_readPair_1 9 rfl) (by decide) (fun c47 => False.elim (by have c47 : z42 = 0 := (i_eq0 (rb rz42 (by decide) (by decide))).mp c47; omega)) (fun _ => ?_)
              refine lv_iconst (v := iI 1) hx hb (dk_at dkX5_readPair_1 10 rfl) (by decide +kernel) ?_
              refine lv_goto (tgt := 62) hx hb (dk_at dkX5_readPair_1 11 rfl) (by decide) ?_
              exact RET 1 _ _ _ _ _ ⟨(u_r_X5_readPair ⟨z1, A2, ghw3, (Or.inr ⟨c5, ⟨z10, A11, ghw12, (Or.inr ⟨c15, ⟨z16, A17, ghw18, (Or.inr ⟨c21, ⟨z22, A23, ghw24, (Or.inr ⟨c26, ⟨z29, A30, ghw31, (Or.inr ⟨c34, ⟨z35, A36, ghw37, (Or.inr ⟨c39, ⟨z42, A43, ghw44, ⟨rfl, rfl⟩⟩⟩)⟩⟩)⟩⟩)⟩⟩)⟩⟩)⟩⟩)⟩), hI, fk.trans (fk.trans (fk.trans (fk.trans (fk.trans (fk.trans (fk.trans (fk.rf) hf4 rfl rfl) hf13 rfl rfl) hf19 rfl rfl) hf25 rfl rfl) hf32 rfl rfl) hf38 rfl rfl) hf45 rfl rfl, by omega⟩ hP hS (dk_at dkX5_readPair_1 13 rfl)

abbrev tr_r_X5_readPart (SS : St → Int → St → Prop) (b : Nat) (ta : Nat) (A : St) (z : Int) (u : St) : Prop := (∃ A1 : St, q_X3_look A A1 ∧ (((¬ (A1 5 2) = 2) ∧ (∃ z6 : Int, ∃ A7 : St, q_X5_passesSign 40 A1 z6 A7 ∧ (((z6 = 0) ∧ (∃ z11 : Int, ∃ A12 : St, q_X5_passesWord 20 A7 z11 A12 ∧ (((z11 = 0) ∧ (∃ z16 : Int, ∃ A17 : St, q_X5_passesWord 21 A12 z16 A17 ∧ (((z16 = 0) ∧ (∃ z21 : Int, ∃ A22 : St, q_X5_passesWord 22 A17 z21 A22 ∧ (((z21 = 0) ∧ (∃ z26 : Int, ∃ A27 : St, q_X5_passesWord 23 A22 z26 A27 ∧ (((z26 = 0) ∧ (∃ z31 : Int, ∃ A32 : St, q_X5_passesWord 24 A27 z31 A32 ∧ (((z31 = 0) ∧ (∃ z36 : Int, ∃ A37 : St, q_X5_passesWord 25 A32 z36 A37 ∧ (((z36 = 0) ∧ (∃ z41 : Int, ∃ A42 : St, q_X5_bad 1 A37 z41 A42 ∧ (z = z41 ∧ u = A42))) ∨ ((¬ z36 = 0) ∧ (∃ z64 : Int, ∃ A65 : St, q_X5_readPair SS b ta A37 z64 A65 ∧ (((z64 = 0) ∧ (z = 0 ∧ u = A65)) ∨ ((¬ z64 = 0) ∧ (∃ z70 : Int, ∃ A71 : St, q_X8_add ta (-18) A65 z70 A71 ∧ (((z70 = 0) ∧ (z = 0 ∧ u = A71)) ∨ ((¬ z70 = 0) ∧ (z = 1 ∧ u = A71))))))))))) ∨ ((¬ z31 = 0) ∧ (∃ z85 : Int, ∃ A86 : St, q_X5_readPair SS b ta A32 z85 A86 ∧ (((z85 = 0) ∧ (z = 0 ∧ u = A86)) ∨ ((¬ z85 = 0) ∧ (∃ z91 : Int, ∃ A92 : St, q_X8_add ta (-17) A86 z91 A92 ∧ (((z91 = 0) ∧ (z = 0 ∧ u = A92)) ∨ ((¬ z91 = 0) ∧ (z = 1 ∧ u = A92))))))))))) ∨ ((¬ z26 = 0) ∧ (∃ z98 : Int, ∃ A99 : St, q_X8_add ta (-4) A27 z98 A99 ∧ (z = z98 ∧ u = A99)))))) ∨ ((¬ z21 = 0) ∧ (∃ z110 : Int, ∃ A111 : St, q_X8_add ta (-3) A22 z110 A111 ∧ (z = z110 ∧ u = A111)))))) ∨ ((¬ z16 = 0) ∧ (∃ z121 : Int, ∃ A122 : St, q_X8_add ta (-2) A17 z121 A122 ∧ (z = z121 ∧ u = A122)))))) ∨ ((¬ z11 = 0) ∧ (∃ z131 : Int, ∃ A132 : St, q_X8_add ta (-1) A12 z131 A132 ∧ (z = z131 ∧ u = A132)))))) ∨ ((¬ z6 = 0) ∧ (∃ z143 : Int, ∃ A144 : St, q_X5_enter A7 z143 A144 ∧ (((z143 = 0) ∧ (z = 0 ∧ u = A144)) ∨ ((¬ z143 = 0) ∧ (∃ z149 : Int, ∃ A150 : St, q_SS_sum SS A144 z149 A150 ∧ (((z149 = 0) ∧ (z = 0 ∧ u = A150)) ∨ ((¬ z149 = 0) ∧ (∃ z155 : Int, ∃ A156 : St, q_X5_sign 41 A150 z155 A156 ∧ (((z155 = 0) ∧ (z = 0 ∧ u = A156)) ∨ ((¬ z155 = 0) ∧ (∃ z162 : Int, ∃ A163 : St, q_X5_leave A156 z162 A163 ∧ (z = 1 ∧ u = A163))))))))))))))) ∨ (((A1 5 2) = 2) ∧ (∃ A168 : St, q_X3_pass A1 A168 ∧ (∃ z173 : Int, ∃ A174 : St, q_X8_add ta (A1 5 4) A168 z173 A174 ∧ (z = z173 ∧ u = A174))))))
def r_X5_readPart (SS : St → Int → St → Prop) (b : Nat) (ta : Nat) (A : St) (z : Int) (u : St) : Prop := tr_r_X5_readPart SS b ta A z u
theorem u_r_X5_readPart {SS : St → Int → St → Prop} {b : Nat} {ta : Nat} {A : St} {z : Int} {u : St} (h : tr_r_X5_readPart SS b ta A z u) : r_X5_readPart SS b ta A z u := h
def q_X5_readPart (SS : St → Int → St → Prop) (b : Nat) (ta : Nat) (A : St) (z : Int) (u : St) : Prop := r_X5_readPart SS b ta A z u ∧ IK u ∧ fk [71, 102] [(3, 2), (3, 3), (3, 4), (5, 1), (5, 2), (5, 3), (5, 4), (5, 5), (5, 6), (70, 2), (101, 2)] A u ∧ ((0 ≤ z ∧ z ≤ 1) ∧ (z = 1 → u 3 4 = A 3 4))
set_option maxHeartbeats 4000000 in
set_option maxRecDepth 100000 in
theorem kc_X5_readPart (l : Launch) (dC : Nat → ClassId) (dI : Nat → Nat → Nat) (cB cI cJ cZ cQ : ClassId) (aL aS : Nat) (q : Nat → Nat) (SS : St → Int → St → Prop) (b : Nat) (A : St) (ta : Nat) (hI : IK A) (hta : isE ta) (hp0 : A 3 4 = (b : Int)) (hp1 : b ≤ 8) (IHs : ∀ A : St, IK A → A 3 4 = (b : Int) + 1 → b + 1 ≤ 8 → KMi l yX5_readSum ws_kc_X5_readSum (rqm 4 (b + 1)) aL aS (dC, dI) (tyA cB cI cJ cZ cQ) (WK cB cI cJ cZ cQ q) A [.ref (q 3), .ref (q ta)] (fun z u => SS A z u ∧ IK u ∧ fk [71, 102] [(3, 2), (3, 3), (3, 4), (5, 1), (5, 2), (5, 3), (5, 4), (5, 5), (5, 6), (70, 2), (101, 2)] A u ∧ ((0 ≤ z ∧ z ≤ 1) ∧ (z = 1 → u 3 4 = A 3 4)))) : KMi l yX5_readPart ws_kc_X5_readPart (rqm 2 b) aL aS (dC, dI) (tyA cB cI cJ cZ cQ) (WK cB cI cJ cZ cQ q) A [.ref (q 3), .ref (q ta)] (fun z u => r_X5_readPart SS b ta A z u ∧ IK u ∧ fk [71, 102] [(3, 2), (3, 3), (3, 4), (5, 1), (5, 2), (5, 3), (5, 4), (5, 5), (5, 6), (70, 2), (101, 2)] A u ∧ ((0 ≤ z ∧ z ≤ 1) ∧ (z = 1 → u 3 4 = A 3 4))) := by
  refine k_metz (cc := cX5_readPart) (maxL := 2) WK_adr (plainFor_of_name (by decide +kernel)) rfl (Nat.le_of_ble_eq_true rfl) (fun z u h => h.2.2.2.1) (fun p e s m below meth c Q AS ls hx hb hml hown hts hK hDD hA0 hE RET H locs hP hS hl => ?_)
  have hown : s.vm.findClass RX5 = some m.cls := hown
  have hl : lv_has ls 2 [(0, .ref (q 3)), (1, .ref (q ta))] := hl
  have hiX5 : ∀ w ∈ u_ws RX5 TX5 5, w ∈ ws_kc_X5_readPart := fun w h => List.mem_cons_of_mem _ (wy_layX5 w h)
  have hiX3 : ∀ w ∈ u_ws RX3 TX3 7, w ∈ ws_kc_X5_readPart := fun w h => List.mem_cons_of_mem _ (wy_layX3 w h)
  refine lv_aload_n hx hb (dk_at dkX5_readPart_0 0 rfl) rfl (lv_at hl 0 rfl) ?_
  refine va_get (D := (dC, dI)) (ci := 5) (v := .ref (q 5)) (C := RX5) (T := TX5) (N := 5) hx hb hts hiX5 hown hK hP 3 (wkRD) rfl 0 (by decide) (hts _ (List.mem_cons_of_mem _ wkq_5_6)) (fun _ h9 => h9) rfl (dk_at dkX5_readPart_0 1 rfl) ?_
  refine k_callv (As := []) (rest := []) ⟨hx, hb, hml, hown, hts⟩ hE (kc_X3_look l dC dI cB cI cJ cZ cQ aL aS q _ hI) (cwV 0 hts (goodVk wkq_5_22 wkq_5_23 wkq_5_24 wkq_4_10 wkq_4_2) rfl rfl rfl (by decide +kernel) ⟨by show (1) + 1 ≤ 10 * (9 - b) + 7; omega, by show 8 + (1 + 11) + (25) ≤ 400 * (9 - b) + 80; omega⟩) hK hDD hA0 hP hS 5 3 (wkLX) rfl rfl hl.1 (Nat.le_of_ble_eq_true rfl) (dk_at dkX5_readPart_0 2 rfl) (fun A1 H locs hw2 hP hS => ?_)
  have ghw2 : q_X3_look A A1 := hw2
  obtain ⟨_, hI, hf3, hw2⟩ := hw2
  clear hw2
  refine lv_aload_n hx hb (dk_at dkX5_readPart_0 3 rfl) rfl (lv_at hl 0 rfl) ?_
  refine va_get (D := (dC, dI)) (ci := 5) (v := .ref (q 5)) (C := RX5) (T := TX5) (N := 5) hx hb hts hiX5 hown hK hP 3 (wkRD) rfl 0 (by decide) (hts _ (List.mem_cons_of_mem _ wkq_5_6)) (fun _ h9 => h9) rfl (dk_at dkX5_readPart_0 4 rfl) ?_
  have r4 : (0 : Int) ≤ (A1 5 2) ∧ (A1 5 2) ≤ 4 := irLX_2 hI
  refine va_get (D := (dC, dI)) (ci := 3) (v := .int (iI (A1 5 2))) (C := RX3) (T := TX3) (N := 7) hx hb hts hiX3 hown hK hP 5 (wkLX) rfl 2 (by decide) (hts _ (List.mem_cons_of_mem _ wkq_5_9)) (fun _ h9 => h9) rfl (dk_at dkX5_readPart_0 5 rfl) ?_
  refine lv_iconst (v := iI 2) hx hb (dk_at dkX5_readPart_0 6 rfl) (by decide +kernel) ?_
  refine lv_icmp_ne (tgt := 37) hx hb (dk_at dkX5_readPart_0 7 rfl) (by decide) (fun c5 => ?_) (fun c5 => ?_)
  · have c5 : ¬ (A1 5 2) = 2 := mt (i_eq (rb r4 (by decide) (by decide)) ⟨by decide, by decide⟩).mpr c5
    refine lv_aload_n hx hb (dk_at dkX5_readPart_1 1 rfl) rfl (lv_at hl 0 rfl) ?_
    refine lv_bipush (v := iI 40) hx hb (dk_at dkX5_readPart_1 2 rfl) (by decide +kernel) ?_
    refine k_calli (As := [.int (iI 40)]) (rest := []) ⟨hx, hb, hml, hown, hts⟩ hE (kc_X5_passesSign l dC dI cB cI cJ cZ cQ aL aS q _ 40 hI ⟨by decide, by decide⟩) (cwV 1 hts (goodVk wkq_7_42 wkq_7_43 wkq_7_44 wkq_5_28 wkq_7_45) rfl rfl rfl (by decide +kernel) ⟨by show (2) + 1 ≤ 10 * (9 - b) + 7; omega, by show 8 + (2 + 11) + (45) ≤ 400 * (9 - b) + 80; omega⟩) hK hDD hA0 hP hS 3 5 (wkRD) rfl rfl hl.1 (Nat.le_of_ble_eq_true rfl) (dk_at dkX5_readPart_1 3 rfl) (fun z6 A7 H locs hw8 hP hS => ?_)
    have ghw8 : q_X5_passesSign 40 A1 z6 A7 := hw8
    obtain ⟨_, hI, hf9, hw8⟩ := hw8
    refine lv_if_eq (tgt := 83) hx hb (dk_at dkX5_readPart_1 4 rfl) (by decide) (fun c10 => ?_) (fun c10 => ?_)
    · have c10 : z6 = 0 := (i_eq0 (rb hw8 (by decide) (by decide))).mp c10
      refine lv_aload_n hx hb (dk_at dkX5_readPart_2 7 rfl) rfl (lv_at hl 0 rfl) ?_
      refine lv_bipush (v := iI 20) hx hb (dk_at dkX5_readPart_2 8 rfl) (by decide +kernel) ?_
      refine k_calli (As := [.int (iI 20)]) (rest := []) ⟨hx, hb, hml, hown, hts⟩ hE (kc_X5_passesWord l dC dI cB cI cJ cZ cQ aL aS q _ 20 hI ⟨by decide, by decide⟩) (cwV 1 hts (goodVk wkq_6_27 wkq_6_28 wkq_6_29 wkq_5_28 wkq_6_30) rfl rfl rfl (by decide +kernel) ⟨by show (2) + 1 ≤ 10 * (9 - b) + 7; omega, by show 8 + (2 + 11) + (45) ≤ 400 * (9 - b) + 80; omega⟩) hK hDD hA0 hP hS 3 5 (wkRD) rfl rfl hl.1 (Nat.le_of_ble_eq_true rfl) (dk_at dkX5_readPart_2 9 rfl) (fun z11 A12 H locs hw13 hP hS => ?_)
      have ghw13 : q_X5_passesWord 20 A7 z11 A12 := hw13
      obtain ⟨_, hI, hf14, hw13⟩ := hw13
      refine lv_if_eq (tgt := 98) hx hb (dk_at dkX5_readPart_2 10 rfl) (by decide) (fun c15 => ?_) (fun c15 => ?_)
      · have c15 : z11 = 0 := (i_eq0 (rb hw13 (by decide) (by decide))).mp c15
        refine lv_aload_n hx hb (dk_at dkX5_readPart_2 15 rfl) rfl (lv_at hl 0 rfl) ?_
        refine lv_bipush (v := iI 21) hx hb (dk_at dkX5_readPart_3 0 rfl) (by decide +kernel) ?_
        refine k_calli (As := [.int (iI 21)]) (rest := []) ⟨hx, hb, hml, hown, hts⟩ hE (kc_X5_passesWord l dC dI cB cI cJ cZ cQ aL aS q _ 21 hI ⟨by decide, by decide⟩) (cwV 1 hts (goodVk wkq_6_27 wkq_6_28 wkq_6_29 wkq_5_28 wkq_6_30) rfl rfl rfl (by decide +kernel) ⟨by show (2) + 1 ≤ 10 * (9 - b) + 7; omega, by show 8 + (2 + 11) + (45) ≤ 400 * (9 - b) + 80; omega⟩) hK hDD hA0 hP hS 3 5 (wkRD) rfl rfl hl.1 (Nat.le_of_ble_eq_true rfl) (dk_at dkX5_readPart_3 1 rfl) (fun z16 A17 H locs hw18 hP hS => ?_)
        have ghw18 : q_X5_passesWord 21 A12 z16 A17 := hw18
        obtain ⟨_, hI, hf19, hw18⟩ := hw18
        refine lv_if_eq (tgt := 114) hx hb (dk_at dkX5_readPart_3 2 rfl) (by decide) (fun c20 => ?_) (fun c20 => ?_)
        · have c20 : z16 = 0 := (i_eq0 (rb hw18 (by decide) (by decide))).mp c20
          refine lv_aload_n hx hb (dk_at dkX5_readPart_3 7 rfl) rfl (lv_at hl 0 rfl) ?_
          refine lv_bipush (v := iI 22) hx hb (dk_at dkX5_readPart_3 8 rfl) (by decide +kernel) ?_
          refine k_calli (As := [.int (iI 22)]) (rest := []) ⟨hx, hb, hml, hown, hts⟩ hE (kc_X5_passesWord l dC dI cB cI cJ cZ cQ aL aS q _ 22 hI ⟨by decide, by decide⟩) (cwV 1 hts (goodVk wkq_6_27 wkq_6_28 wkq_6_29 wkq_5_28 wkq_6_30) rfl rfl rfl (by decide +kernel) ⟨by show (2) + 1 ≤ 10 * (9 - b) + 7; omega, by show 8 + (2 + 11) + (45) ≤ 400 * (9 - b) + 80; omega⟩) hK hDD hA0 hP hS 3 5 (wkRD) rfl rfl hl.1 (Nat.le_of_ble_eq_true rfl) (dk_at dkX5_readPart_3 9 rfl) (fun z21 A22 H locs hw23 hP hS => ?_)
          have ghw23 : q_X5_passesWord 22 A17 z21 A22 := hw23
          obtain ⟨_, hI, hf24, hw23⟩ := hw23
          refine lv_if_eq (tgt := 130) hx hb (dk_at dkX5_readPart_3 10 rfl) (by decide) (fun c25 => ?_) (fun c25 => ?_)
          · have c25 : z21 = 0 := (i_eq0 (rb hw23 (by decide) (by decide))).mp c25
            refine lv_aload_n hx hb (dk_at dkX5_readPart_3 15 rfl) rfl (lv_at hl 0 rfl) ?_
            refine lv_bipush (v := iI 23) hx hb (dk_at dkX5_readPart_4 0 rfl) (by decide +kernel) ?_
            refine k_calli (As := [.int (iI 23)]) (rest := []) ⟨hx, hb, hml, hown, hts⟩ hE (kc_X5_passesWord l dC dI cB cI cJ cZ cQ aL aS q _ 23 hI ⟨by decide, by decide⟩) (cwV 1 hts (goodVk wkq_6_27 wkq_6_28 wkq_6_29 wkq_5_28 wkq_6_30) rfl rfl rfl (by decide +kernel) ⟨by show (2) + 1 ≤ 10 * (9 - b) + 7; omega, by show 8 + (2 + 11) + (45) ≤ 400 * (9 - b) + 80; omega⟩) hK hDD hA0 hP hS 3 5 (wkRD) rfl rfl hl.1 (Nat.le_of_ble_eq_true rfl) (dk_at dkX5_readPart_4 1 rfl) (fun z26 A27 H locs hw28 hP hS => ?_)
            have ghw28 : q_X5_passesWord 23 A22 z26 A27 := hw28
            obtain ⟨_, hI, hf29, hw28⟩ := hw28
            refine lv_if_eq (tgt := 146) hx hb (dk_at dkX5_readPart_4 2 rfl) (by decide) (fun c30 => ?_) (fun c30 => ?_)
            · have c30 : z26 = 0 := (i_eq0 (rb hw28 (by decide) (by decide))).mp c30
              refine lv_aload_n hx hb (dk_at dkX5_readPart_4 7 rfl) rfl (lv_at hl 0 rfl) ?_
              refine lv_bipush (v := iI 24) hx hb (dk_at dkX5_readPart_4 8 rfl) (by decide +kernel) ?_
              refine k_calli (As := [.int (iI 24)]) (rest := []) ⟨hx, hb, hml, hown, hts⟩ hE (kc_X5_passesWord l dC dI cB cI cJ cZ cQ aL aS q _ 24 hI ⟨by decide, by decide⟩) (cwV 1 hts (goodVk wkq_6_27 wkq_6_28 wkq_6_29 wkq_5_28 wkq_6_30) rfl rfl rfl (by decide +kernel) ⟨by show (2) + 1 ≤ 10 * (9 - b) + 7; omega, by show 8 + (2 + 11) + (45) ≤ 400 * (9 - b) + 80; omega⟩) hK hDD hA0 hP hS 3 5 (wkRD) rfl rfl hl.1 (Nat.le_of_ble_eq_true rfl) (dk_at dkX5_readPart_4 9 rfl) (fun z31 A32 H locs hw33 hP hS => ?_)
              have ghw33 : q_X5_passesWord 24 A27 z31 A32 := hw33
              obtain ⟨_, hI, hf34, hw33⟩ := hw33
              refine lv_if_eq (tgt := 178) hx hb (dk_at dkX5_readPart_4 10 rfl) (by decide) (fun c35 => ?_) (fun c35 => ?_)
              · have c35 : z31 = 0 := (i_eq0 (rb hw33 (by decide) (by decide))).mp c35
                refine lv_aload_n hx hb (dk_at dkX5_readPart_5 7 rfl) rfl (lv_at hl 0 rfl) ?_
                refine lv_bipush (v := iI 25) hx hb (dk_at dkX5_readPart_5 8 rfl) (by decide +kernel) ?_
                refine k_calli (As := [.int (iI 25)]) (rest := []) ⟨hx, hb, hml, hown, hts⟩ hE (kc_X5_passesWord l dC dI cB cI cJ cZ cQ aL aS q _ 25 hI ⟨by decide, by decide⟩) (cwV 1 hts (goodVk wkq_6_27 wkq_6_28 wkq_6_29 wkq_5_28 wkq_6_30) rfl rfl rfl (by decide +kernel) ⟨by show (2) + 1 ≤ 10 * (9 - b) + 7; omega, by show 8 + (2 + 11) + (45) ≤ 400 * (9 - b) + 80; omega⟩) hK hDD hA0 hP hS 3 5 (wkRD) rfl rfl hl.1 (Nat.le_of_ble_eq_true rfl) (dk_at dkX5_readPart_5 9 rfl) (fun z36 A37 H locs hw38 hP hS => ?_)
                have ghw38 : q_X5_passesWord 25 A32 z36 A37 := hw38
                obtain ⟨_, hI, hf39, hw38⟩ := hw38
                refine lv_if_eq (tgt := 210) hx hb (dk_at dkX5_readPart_5 10 rfl) (by decide) (fun c40 => ?_) (fun c40 => ?_)
                · have c40 : z36 = 0 := (i_eq0 (rb hw38 (by decide) (by decide))).mp c40
                  refine lv_aload_n hx hb (dk_at dkX5_readPart_6 7 rfl) rfl (lv_at hl 0 rfl) ?_
                  refine lv_iconst (v := iI 1) hx hb (dk_at dkX5_readPart_6 8 rfl) (by decide +kernel) ?_
                  refine k_calli (As := [.int (iI 1)]) (rest := []) ⟨hx, hb, hml, hown, hts⟩ hE (kc_X5_bad l dC dI cB cI cJ cZ cQ aL aS q _ 1 hI ⟨by decide, by decide⟩) (cwV 1 hts (goodVk wkq_5_37 wkq_5_38 wkq_5_39 wkq_5_28 wkq_5_40) rfl rfl rfl (by decide +kernel) ⟨by show (0) + 1 ≤ 10 * (9 - b) + 7; omega, by show 8 + (2 + 11) + (0) ≤ 400 * (9 - b) + 80; omega⟩) hK hDD hA0 hP hS 3 5 (wkRD) rfl rfl hl.1 (Nat.le_of_ble_eq_true rfl) (dk_at dkX5_readPart_6 9 rfl) (fun z41 A42 H locs hw43 hP hS => ?_)
                  have ghw43 : q_X5_bad 1 A37 z41 A42 := hw43
                  obtain ⟨_, hI, hf44, hw43⟩ := hw43
                  have rz41 : 0 ≤ z41 ∧ z41 ≤ 1 := hw43.1
                  have hw43 := hw43.2
                  have e53 : A1 3 4 = (A 3 4) := (hf3 3 4 rfl rfl)
                  have e52 : A7 3 4 = (A 3 4) := (hf9 3 4 rfl rfl).trans e53
                  have e51 : A12 3 4 = (A 3 4) := (hf14 3 4 rfl rfl).trans e52
                  have e50 : A17 3 4 = (A 3 4) := (hf19 3 4 rfl rfl).trans e51
                  have e49 : A22 3 4 = (A 3 4) := (hf24 3 4 rfl rfl).trans e50
                  have e48 : A27 3 4 = (A 3 4) := (hf29 3 4 rfl rfl).trans e49
                  have e47 : A32 3 4 = (A 3 4) := (hf34 3 4 rfl rfl).trans e48
                  have e46 : A37 3 4 = (A 3 4) := (hf39 3 4 rfl rfl).trans e47
                  have e45 : A42 3 4 = (A 3 4) := (hf44 3 4 rfl rfl).trans e46
                  have r54 : (0 : Int) ≤ (A 3 4) ∧ (A 3 4) ≤ 8 := by rw [← e45]; exact irRD_4 hI
                  exact RET z41 _ _ _ _ _ ⟨(u_r_X5_readPart ⟨A1, ghw2, (Or.inl ⟨c5, ⟨z6, A7, ghw8, (Or.inl ⟨c10, ⟨z11, A12, ghw13, (Or.inl ⟨c15, ⟨z16, A17, ghw18, (Or.inl ⟨c20, ⟨z21, A22, ghw23, (Or.inl ⟨c25, ⟨z26, A27, ghw28, (Or.inl ⟨c30, ⟨z31, A32, ghw33, (Or.inl ⟨c35, ⟨z36, A37, ghw38, (Or.inl ⟨c40, ⟨z41, A42, ghw43, ⟨rfl, rfl⟩⟩⟩)⟩⟩)⟩⟩)⟩⟩)⟩⟩)⟩⟩)⟩⟩)⟩⟩)⟩), hI, fk.trans (fk.trans (fk.trans (fk.trans (fk.trans (fk.trans (fk.trans (fk.trans (fk.trans (fk.rf) hf3 rfl rfl) hf9 rfl rfl) hf14 rfl rfl) hf19 rfl rfl) hf24 rfl rfl) hf29 rfl rfl) hf34 rfl rfl) hf39 rfl rfl) hf44 rfl rfl, by omega⟩ hP hS (dk_at dkX5_readPart_6 10 rfl)
                · have c40 : ¬ z36 = 0 := mt (i_eq0 (rb hw38 (by decide) (by decide))).mpr c40
                  refine lv_aload_n hx hb (dk_at dkX5_readPart_5 11 rfl) rfl (lv_at hl 0 rfl) ?_
                  refine lv_aload_n hx hb (dk_at dkX5_readPart_5 12 rfl) rfl (lv_at hl 1 rfl) ?_
                  have e62 : A1 3 4 = (A 3 4) := (hf3 3 4 rfl rfl)
                  have e61 : A7 3 4 = (A 3 4) := (hf9 3 4 rfl rfl).trans e62
                  have e60 : A12 3 4 = (A 3 4) := (hf14 3 4 rfl rfl).trans e61
                  have e59 : A17 3 4 = (A 3 4) := (hf19 3 4 rfl rfl).trans e60
                  have e58 : A22 3 4 = (A 3 4) := (hf24 3 4 rfl rfl).trans e59
                  have e57 : A27 3 4 = (A 3 4) := (hf29 3 4 rfl rfl).trans e58
                  have e56 : A32 3 4 = (A 3 4) := (hf34 3 4 rfl rfl).trans e57
                  have e55 : A37 3 4 = (A 3 4) := (hf39 3 4 rfl rfl).trans e56
                  have r63 : (0 : Int) ≤ (A 3 4) ∧ (A 3 4) ≤ 8 := by rw [← e55]; exact irRD_4 hI
                  refine k_calli (As := [.ref (q ta)]) (rest := []) ⟨hx, hb, hml, hown, hts⟩ hE (kc_X5_readPair l dC dI cB cI cJ cZ cQ aL aS q SS b _ ta hI hta (by omega) (by omega) IHs) (cwV 1 hts (goodVk wkq_8_10 wkq_8_11 wkq_8_12 wkq_5_28 wkq_8_8) rfl rfl rfl (by decide +kernel) ⟨by show (10 * (9 - b) + 6) + 1 ≤ 10 * (9 - b) + 7; omega, by show 8 + (2 + 11) + (400 * (9 - b) + 40) ≤ 400 * (9 - b) + 80; omega⟩) hK hDD hA0 hP hS 3 5 (wkRD) rfl rfl hl.1 (Nat.le_of_ble_eq_true rfl) (dk_at dkX5_readPart_5 13 rfl) (fun z64 A65 H locs hw66 hP hS => ?_)
                  have ghw66 : q_X5_readPair SS b ta A37 z64 A65 := hw66
                  obtain ⟨_, hI, hf67, hw66⟩ := hw66
                  have r68 : (0 : Int) ≤ (A65 3 4) ∧ (A65 3 4) ≤ 8 := irRD_4 hI
                  have rz64 : 0 ≤ z64 ∧ z64 ≤ 1 := hw66.1
                  have hw66 := hw66.2
                  refine lv_if_eq (tgt := 208) hx hb (dk_at dkX5_readPart_5 14 rfl) (by decide) (fun c69 => ?_) (fun c69 => ?_)
                  · have c69 : z64 = 0 := (i_eq0 (rb rz64 (by decide) (by decide))).mp c69
                    clear hw66
                    refine lv_iconst (v := iI 0) hx hb (dk_at dkX5_readPart_6 5 rfl) (by decide +kernel) ?_
                    exact RET 0 _ _ _ _ _ ⟨(u_r_X5_readPart ⟨A1, ghw2, (Or.inl ⟨c5, ⟨z6, A7, ghw8, (Or.inl ⟨c10, ⟨z11, A12, ghw13, (Or.inl ⟨c15, ⟨z16, A17, ghw18, (Or.inl ⟨c20, ⟨z21, A22, ghw23, (Or.inl ⟨c25, ⟨z26, A27, ghw28, (Or.inl ⟨c30, ⟨z31, A32, ghw33, (Or.inl ⟨c35, ⟨z36, A37, ghw38, (Or.inr ⟨c40, ⟨z64, A65, ghw66, (Or.inl ⟨c69, ⟨rfl, rfl⟩⟩)⟩⟩)⟩⟩)⟩⟩)⟩⟩)⟩⟩)⟩⟩)⟩⟩)⟩⟩)⟩), hI, fk.trans (fk.trans (fk.trans (fk.trans (fk.trans (fk.trans (fk.trans (fk.trans (fk.trans (fk.rf) hf3 rfl rfl) hf9 rfl rfl) hf14 rfl rfl) hf19 rfl rfl) hf24 rfl rfl) hf29 rfl rfl) hf34 rfl rfl) hf39 rfl rfl) hf67 rfl rfl, by omega⟩ hP hS (dk_at dkX5_readPart_6 6 rfl)
                  · have c69 : ¬ z64 = 0 := mt (i_eq0 (rb rz64 (by decide) (by decide))).mpr c69
                    have hw66b := hw66 (by omega)
                    clear hw66
                    refine lv_aload_n hx hb (dk_at dkX5_readPart_5 15 rfl) rfl (lv_at hl 1 rfl) ?_
                    refine lv_bipush (v := iI (-18)) hx hb (dk_at dkX5_readPart_6 0 rfl) (by decide +kernel) ?_
                    refine k_calli (As := [.int (iI (-18))]) (rest := []) ⟨hx, hb, hml, hown, hts⟩ hE (kc_X8_add l dC dI cB cI cJ cZ cQ aL aS q _ ta (-18) hI hta ⟨by decide, by decide⟩) (cwV 1 hts (goodVk wkq_7_33 wkq_7_34 wkq_7_35 wkq_1_35 wkq_7_36) rfl rfl rfl (by decide +kernel) ⟨by show (0) + 1 ≤ 10 * (9 - b) + 7; omega, by show 8 + (2 + 11) + (0) ≤ 400 * (9 - b) + 80; omega⟩) hK hDD hA0 hP hS ta 8 (wkE hta) rfl rfl hl.1 (Nat.le_of_ble_eq_true rfl) (dk_at dkX5_readPart_6 1 rfl) (fun z70 A71 H locs hw72 hP hS => ?_)
                    have ghw72 : q_X8_add ta (-18) A65 z70 A71 := hw72
                    obtain ⟨_, hI, hf73, hw72⟩ := hw72
                    refine lv_if_eq (tgt := 208) hx hb (dk_at dkX5_readPart_6 2 rfl) (by decide) (fun c74 => ?_) (fun c74 => ?_)
                    · have c74 : z70 = 0 := (i_eq0 (rb hw72 (by decide) (by decide))).mp c74
                      refine lv_iconst (v := iI 0) hx hb (dk_at dkX5_readPart_6 5 rfl) (by decide +kernel) ?_
                      have e75 : A71 3 4 = (A65 3 4) := (hf73 3 4 rfl rfl)
                      exact RET 0 _ _ _ _ _ ⟨(u_r_X5_readPart ⟨A1, ghw2, (Or.inl ⟨c5, ⟨z6, A7, ghw8, (Or.inl ⟨c10, ⟨z11, A12, ghw13, (Or.inl ⟨c15, ⟨z16, A17, ghw18, (Or.inl ⟨c20, ⟨z21, A22, ghw23, (Or.inl ⟨c25, ⟨z26, A27, ghw28, (Or.inl ⟨c30, ⟨z31, A32, ghw33, (Or.inl ⟨c35, ⟨z36, A37, ghw38, (Or.inr ⟨c40, ⟨z64, A65, ghw66, (Or.inr ⟨c69, ⟨z70, A71, ghw72, (Or.inl ⟨c74, ⟨rfl, rfl⟩⟩)⟩⟩)⟩⟩)⟩⟩)⟩⟩)⟩⟩)⟩⟩)⟩⟩)⟩⟩)⟩⟩)⟩), hI, fk.trans (fk.trans (fk.trans (fk.trans (fk.trans (fk.trans (fk.trans (fk.trans (fk.trans (fk.trans (fk.rf) hf3 rfl rfl) hf9 rfl rfl) hf14 rfl rfl) hf19 rfl rfl) hf24 rfl rfl) hf29 rfl rfl) hf34 rfl rfl) hf39 rfl rfl) hf67 rfl rfl) hf73 rfl rfl, by omega⟩ hP hS (dk_at dkX5_readPart_6 6 rfl)
                    · have c74 : ¬ z70 = 0 := mt (i_eq0 (rb hw72 (by decide) (by decide))).mpr c74
                      refine lv_iconst (v := iI 1) hx hb (dk_at dkX5_readPart_6 3 rfl) (by decide +kernel) ?_
                      refine lv_goto (tgt := 209) hx hb (dk_at dkX5_readPart_6 4 rfl) (by decide) ?_
                      have e76 : A71 3 4 = (A65 3 4) := (hf73 3 4 rfl rfl)
                      exact RET 1 _ _ _ _ _ ⟨(u_r_X5_readPart ⟨A1, ghw2, (Or.inl ⟨c5, ⟨z6, A7, ghw8, (Or.inl ⟨c10, ⟨z11, A12, ghw13, (Or.inl ⟨c15, ⟨z16, A17, ghw18, (Or.inl ⟨c20, ⟨z21, A22, ghw23, (Or.inl ⟨c25, ⟨z26, A27, ghw28, (Or.inl ⟨c30, ⟨z31, A32, ghw33, (Or.inl ⟨c35, ⟨z36, A37, ghw38, (Or.inr ⟨c40, ⟨z64, A65, ghw66, (Or.inr ⟨c69, ⟨z70, A71, ghw72, (Or.inr ⟨c74, ⟨rfl, rfl⟩⟩)⟩⟩)⟩⟩)⟩⟩)⟩⟩)⟩⟩)⟩⟩)⟩⟩)⟩⟩)⟩⟩)⟩), hI, fk.trans (fk.trans (fk.trans (fk.trans (fk.trans (fk.trans (fk.trans (fk.trans (fk.trans (fk.trans (fk.rf) hf3 rfl rfl) hf9 rfl rfl) hf14 rfl rfl) hf19 rfl rfl) hf24 rfl rfl) hf29 rfl rfl) hf34 rfl rfl) hf39 rfl rfl) hf67 rfl rfl) hf73 rfl rfl, by omega⟩ hP hS (dk_at dkX5_readPart_6 6 rfl)
              · have c35 : ¬ z31 = 0 := mt (i_eq0 (rb hw33 (by decide) (by decide))).mpr c35
                refine lv_aload_n hx hb (dk_at dkX5_readPart_4 11 rfl) rfl (lv_at hl 0 rfl) ?_
                refine lv_aload_n hx hb (dk_at dkX5_readPart_4 12 rfl) rfl (lv_at hl 1 rfl) ?_
                have e83 : A1 3 4 = (A 3 4) := (hf3 3 4 rfl rfl)
                have e82 : A7 3 4 = (A 3 4) := (hf9 3 4 rfl rfl).trans e83
                have e81 : A12 3 4 = (A 3 4) := (hf14 3 4 rfl rfl).trans e82
                have e80 : A17 3 4 = (A 3 4) := (hf19 3 4 rfl rfl).trans e81
                have e79 : A22 3 4 = (A 3 4) := (hf24 3 4 rfl rfl).trans e80
                have e78 : A27 3 4 = (A 3 4) := (hf29 3 4 rfl rfl).trans e79
                have e77 : A32 3 4 = (A 3 4) := (hf34 3 4 rfl rfl).trans e78
                have r84 : (0 : Int) ≤ (A 3 4) ∧ (A 3 4) ≤ 8 := by rw [← e77]; exact irRD_4 hI
                refine k_calli (As := [.ref (q ta)]) (rest := []) ⟨hx, hb, hml, hown, hts⟩ hE (kc_X5_readPair l dC dI cB cI cJ cZ cQ aL aS q SS b _ ta hI hta (by omega) (by omega) IHs) (cwV 1 hts (goodVk wkq_8_10 wkq_8_11 wkq_8_12 wkq_5_28 wkq_8_8) rfl rfl rfl (by decide +kernel) ⟨by show (10 * (9 - b) + 6) + 1 ≤ 10 * (9 - b) + 7; omega, by show 8 + (2 + 11) + (400 * (9 - b) + 40) ≤ 400 * (9 - b) + 80; omega⟩) hK hDD hA0 hP hS 3 5 (wkRD) rfl rfl hl.1 (Nat.le_of_ble_eq_true rfl) (dk_at dkX5_readPart_4 13 rfl) (fun z85 A86 H locs hw87 hP hS => ?_)
                have ghw87 : q_X5_readPair SS b ta A32 z85 A86 := hw87
                obtain ⟨_, hI, hf88, hw87⟩ := hw87
                have r89 : (0 : Int) ≤ (A86 3 4) ∧ (A86 3 4) ≤ 8 := irRD_4 hI
                have rz85 : 0 ≤ z85 ∧ z85 ≤ 1 := hw87.1
                have hw87 := hw87.2
                refine lv_if_eq (tgt := 176) hx hb (dk_at dkX5_readPart_4 14 rfl) (by decide) (fun c90 => ?_) (fun c90 => ?_)
                · have c90 : z85 = 0 := (i_eq0 (rb rz85 (by decide) (by decide))).mp c90
                  clear hw87
                  refine lv_iconst (v := iI 0) hx hb (dk_at dkX5_readPart_5 5 rfl) (by decide +kernel) ?_
                  exact RET 0 _ _ _ _ _ ⟨(u_r_X5_readPart ⟨A1, ghw2, (Or.inl ⟨c5, ⟨z6, A7, ghw8, (Or.inl ⟨c10, ⟨z11, A12, ghw13, (Or.inl ⟨c15, ⟨z16, A17, ghw18, (Or.inl ⟨c20, ⟨z21, A22, ghw23, (Or.inl ⟨c25, ⟨z26, A27, ghw28, (Or.inl ⟨c30, ⟨z31, A32, ghw33, (Or.inr ⟨c35, ⟨z85, A86, ghw87, (Or.inl ⟨c90, ⟨rfl, rfl⟩⟩)⟩⟩)⟩⟩)⟩⟩)⟩⟩)⟩⟩)⟩⟩)⟩⟩)⟩), hI, fk.trans (fk.trans (fk.trans (fk.trans (fk.trans (fk.trans (fk.trans (fk.trans (fk.rf) hf3 rfl rfl) hf9 rfl rfl) hf14 rfl rfl) hf19 rfl rfl) hf24 rfl rfl) hf29 rfl rfl) hf34 rfl rfl) hf88 rfl rfl, by omega⟩ hP hS (dk_at dkX5_readPart_5 6 rfl)
                · have c90 : ¬ z85 = 0 := mt (i_eq0 (rb rz85 (by decide) (by decide))).mpr c90
                  have hw87b := hw87 (by omega)
                  clear hw87
                  refine lv_aload_n hx hb (dk_at dkX5_readPart_4 15 rfl) rfl (lv_at hl 1 rfl) ?_
                  refine lv_bipush (v := iI (-17)) hx hb (dk_at dkX5_readPart_5 0 rfl) (by decide +kernel) ?_
                  refine k_calli (As := [.int (iI (-17))]) (rest := []) ⟨hx, hb, hml, hown, hts⟩ hE (kc_X8_add l dC dI cB cI cJ cZ cQ aL aS q _ ta (-17) hI hta ⟨by decide, by decide⟩) (cwV 1 hts (goodVk wkq_7_33 wkq_7_34 wkq_7_35 wkq_1_35 wkq_7_36) rfl rfl rfl (by decide +kernel) ⟨by show (0) + 1 ≤ 10 * (9 - b) + 7; omega, by show 8 + (2 + 11) + (0) ≤ 400 * (9 - b) + 80; omega⟩) hK hDD hA0 hP hS ta 8 (wkE hta) rfl rfl hl.1 (Nat.le_of_ble_eq_true rfl) (dk_at dkX5_readPart_5 1 rfl) (fun z91 A92 H locs hw93 hP hS => ?_)
                  have ghw93 : q_X8_add ta (-17) A86 z91 A92 := hw93
                  obtain ⟨_, hI, hf94, hw93⟩ := hw93
                  refine lv_if_eq (tgt := 176) hx hb (dk_at dkX5_readPart_5 2 rfl) (by decide) (fun c95 => ?_) (fun c95 => ?_)
                  · have c95 : z91 = 0 := (i_eq0 (rb hw93 (by decide) (by decide))).mp c95
                    refine lv_iconst (v := iI 0) hx hb (dk_at dkX5_readPart_5 5 rfl) (by decide +kernel) ?_
                    have e96 : A92 3 4 = (A86 3 4) := (hf94 3 4 rfl rfl)
                    exact RET 0 _ _ _ _ _ ⟨(u_r_X5_readPart ⟨A1, ghw2, (Or.inl ⟨c5, ⟨z6, A7, ghw8, (Or.inl ⟨c10, ⟨z11, A12, ghw13, (Or.inl ⟨c15, ⟨z16, A17, ghw18, (Or.inl ⟨c20, ⟨z21, A22, ghw23, (Or.inl ⟨c25, ⟨z26, A27, ghw28, (Or.inl ⟨c30, ⟨z31, A32, ghw33, (Or.inr ⟨c35, ⟨z85, A86, ghw87, (Or.inr ⟨c90, ⟨z91, A92, ghw93, (Or.inl ⟨c95, ⟨rfl, rfl⟩⟩)⟩⟩)⟩⟩)⟩⟩)⟩⟩)⟩⟩)⟩⟩)⟩⟩)⟩⟩)⟩), hI, fk.trans (fk.trans (fk.trans (fk.trans (fk.trans (fk.trans (fk.trans (fk.trans (fk.trans (fk.rf) hf3 rfl rfl) hf9 rfl rfl) hf14 rfl rfl) hf19 rfl rfl) hf24 rfl rfl) hf29 rfl rfl) hf34 rfl rfl) hf88 rfl rfl) hf94 rfl rfl, by omega⟩ hP hS (dk_at dkX5_readPart_5 6 rfl)
                  · have c95 : ¬ z91 = 0 := mt (i_eq0 (rb hw93 (by decide) (by decide))).mpr c95
                    refine lv_iconst (v := iI 1) hx hb (dk_at dkX5_readPart_5 3 rfl) (by decide +kernel) ?_
                    refine lv_goto (tgt := 177) hx hb (dk_at dkX5_readPart_5 4 rfl) (by decide) ?_
                    have e97 : A92 3 4 = (A86 3 4) := (hf94 3 4 rfl rfl)
                    exact RET 1 _ _ _ _ _ ⟨(u_r_X5_readPart ⟨A1, ghw2, (Or.inl ⟨c5, ⟨z6, A7, ghw8, (Or.inl ⟨c10, ⟨z11, A12, ghw13, (Or.inl ⟨c15, ⟨z16, A17, ghw18, (Or.inl ⟨c20, ⟨z21, A22, ghw23, (Or.inl ⟨c25, ⟨z26, A27, ghw28, (Or.inl ⟨c30, ⟨z31, A32, ghw33, (Or.inr ⟨c35, ⟨z85, A86, ghw87, (Or.inr ⟨c90, ⟨z91, A92, ghw93, (Or.inr ⟨c95, ⟨rfl, rfl⟩⟩)⟩⟩)⟩⟩)⟩⟩)⟩⟩)⟩⟩)⟩⟩)⟩⟩)⟩⟩)⟩), hI, fk.trans (fk.trans (fk.trans (fk.trans (fk.trans (fk.trans (fk.trans (fk.trans (fk.trans (fk.rf) hf3 rfl rfl) hf9 rfl rfl) hf14 rfl rfl) hf19 rfl rfl) hf24 rfl rfl) hf29 rfl rfl) hf34 rfl rfl) hf88 rfl rfl) hf94 rfl rfl, by omega⟩ hP hS (dk_at dkX5_readPart_5 6 rfl)
            · have c30 : ¬ z26 = 0 := mt (i_eq0 (rb hw28 (by decide) (by decide))).mpr c30
              refine lv_aload_n hx hb (dk_at dkX5_readPart_4 3 rfl) rfl (lv_at hl 1 rfl) ?_
              refine lv_bipush (v := iI (-4)) hx hb (dk_at dkX5_readPart_4 4 rfl) (by decide +kernel) ?_
              refine k_calli (As := [.int (iI (-4))]) (rest := []) ⟨hx, hb, hml, hown, hts⟩ hE (kc_X8_add l dC dI cB cI cJ cZ cQ aL aS q _ ta (-4) hI hta ⟨by decide, by decide⟩) (cwV 1 hts (goodVk wkq_7_33 wkq_7_34 wkq_7_35 wkq_1_35 wkq_7_36) rfl rfl rfl (by decide +kernel) ⟨by show (0) + 1 ≤ 10 * (9 - b) + 7; omega, by show 8 + (2 + 11) + (0) ≤ 400 * (9 - b) + 80; omega⟩) hK hDD hA0 hP hS ta 8 (wkE hta) rfl rfl hl.1 (Nat.le_of_ble_eq_true rfl) (dk_at dkX5_readPart_4 5 rfl) (fun z98 A99 H locs hw100 hP hS => ?_)
              have ghw100 : q_X8_add ta (-4) A27 z98 A99 := hw100
              obtain ⟨_, hI, hf101, hw100⟩ := hw100
              have e108 : A1 3 4 = (A 3 4) := (hf3 3 4 rfl rfl)
              have e107 : A7 3 4 = (A 3 4) := (hf9 3 4 rfl rfl).trans e108
              have e106 : A12 3 4 = (A 3 4) := (hf14 3 4 rfl rfl).trans e107
              have e105 : A17 3 4 = (A 3 4) := (hf19 3 4 rfl rfl).trans e106
              have e104 : A22 3 4 = (A 3 4) := (hf24 3 4 rfl rfl).trans e105
              have e103 : A27 3 4 = (A 3 4) := (hf29 3 4 rfl rfl).trans e104
              have e102 : A99 3 4 = (A 3 4) := (hf101 3 4 rfl rfl).trans e103
              have r109 : (0 : Int) ≤ (A 3 4) ∧ (A 3 4) ≤ 8 := by rw [← e102]; exact irRD_4 hI
              exact RET z98 _ _ _ _ _ ⟨(u_r_X5_readPart ⟨A1, ghw2, (Or.inl ⟨c5, ⟨z6, A7, ghw8, (Or.inl ⟨c10, ⟨z11, A12, ghw13, (Or.inl ⟨c15, ⟨z16, A17, ghw18, (Or.inl ⟨c20, ⟨z21, A22, ghw23, (Or.inl ⟨c25, ⟨z26, A27, ghw28, (Or.inr ⟨c30, ⟨z98, A99, ghw100, ⟨rfl, rfl⟩⟩⟩)⟩⟩)⟩⟩)⟩⟩)⟩⟩)⟩⟩)⟩), hI, fk.trans (fk.trans (fk.trans (fk.trans (fk.trans (fk.trans (fk.trans (fk.rf) hf3 rfl rfl) hf9 rfl rfl) hf14 rfl rfl) hf19 rfl rfl) hf24 rfl rfl) hf29 rfl rfl) hf101 rfl rfl, by omega⟩ hP hS (dk_at dkX5_readPart_4 6 rfl)
          · have c25 : ¬ z21 = 0 := mt (i_eq0 (rb hw23 (by decide) (by decide))).mpr c25
            refine lv_aload_n hx hb (dk_at dkX5_readPart_3 11 rfl) rfl (lv_at hl 1 rfl) ?_
            refine lv_bipush (v := iI (-3)) hx hb (dk_at dkX5_readPart_3 12 rfl) (by decide +kernel) ?_
            refine k_calli (As := [.int (iI (-3))]) (rest := []) ⟨hx, hb, hml, hown, hts⟩ hE (kc_X8_add l dC dI cB cI cJ cZ cQ aL aS q _ ta (-3) hI hta ⟨by decide, by decide⟩) (cwV 1 hts (goodVk wkq_7_33 wkq_7_34 wkq_7_35 wkq_1_35 wkq_7_36) rfl rfl rfl (by decide +kernel) ⟨by show (0) + 1 ≤ 10 * (9 - b) + 7; omega, by show 8 + (2 + 11) + (0) ≤ 400 * (9 - b) + 80; omega⟩) hK hDD hA0 hP hS ta 8 (wkE hta) rfl rfl hl.1 (Nat.le_of_ble_eq_true rfl) (dk_at dkX5_readPart_3 13 rfl) (fun z110 A111 H locs hw112 hP hS => ?_)
            have ghw112 : q_X8_add ta (-3) A22 z110 A111 := hw112
            obtain ⟨_, hI, hf113, hw112⟩ := hw112
            have e119 : A1 3 4 = (A 3 4) := (hf3 3 4 rfl rfl)
            have e118 : A7 3 4 = (A 3 4) := (hf9 3 4 rfl rfl).trans e119
            have e117 : A12 3 4 = (A 3 4) := (hf14 3 4 rfl rfl).trans e118
            have e116 : A17 3 4 = (A 3 4) := (hf19 3 4 rfl rfl).trans e117
            have e115 : A22 3 4 = (A 3 4) := (hf24 3 4 rfl rfl).trans e116
            have e114 : A111 3 4 = (A 3 4) := (hf113 3 4 rfl rfl).trans e115
            have r120 : (0 : Int) ≤ (A 3 4) ∧ (A 3 4) ≤ 8 := by rw [← e114]; exact irRD_4 hI
            exact RET z110 _ _ _ _ _ ⟨(u_r_X5_readPart ⟨A1, ghw2, (Or.inl ⟨c5, ⟨z6, A7, ghw8, (Or.inl ⟨c10, ⟨z11, A12, ghw13, (Or.inl ⟨c15, ⟨z16, A17, ghw18, (Or.inl ⟨c20, ⟨z21, A22, ghw23, (Or.inr ⟨c25, ⟨z110, A111, ghw112, ⟨rfl, rfl⟩⟩⟩)⟩⟩)⟩⟩)⟩⟩)⟩⟩)⟩), hI, fk.trans (fk.trans (fk.trans (fk.trans (fk.trans (fk.trans (fk.rf) hf3 rfl rfl) hf9 rfl rfl) hf14 rfl rfl) hf19 rfl rfl) hf24 rfl rfl) hf113 rfl rfl, by omega⟩ hP hS (dk_at dkX5_readPart_3 14 rfl)
        · have c20 : ¬ z16 = 0 := mt (i_eq0 (rb hw18 (by decide) (by decide))).mpr c20
          refine lv_aload_n hx hb (dk_at dkX5_readPart_3 3 rfl) rfl (lv_at hl 1 rfl) ?_
          refine lv_bipush (v := iI (-2)) hx hb (dk_at dkX5_readPart_3 4 rfl) (by decide +kernel) ?_
          refine k_calli (As := [.int (iI (-2))]) (rest := []) ⟨hx, hb, hml, hown, hts⟩ hE (kc_X8_add l dC dI cB cI cJ cZ cQ aL aS q _ ta (-2) hI hta ⟨by decide, by decide⟩) (cwV 1 hts (goodVk wkq_7_33 wkq_7_34 wkq_7_35 wkq_1_35 wkq_7_36) rfl rfl rfl (by decide +kernel) ⟨by show (0) + 1 ≤ 10 * (9 - b) + 7; omega, by show 8 + (2 + 11) + (0) ≤ 400 * (9 - b) + 80; omega⟩) hK hDD hA0 hP hS ta 8 (wkE hta) rfl rfl hl.1 (Nat.le_of_ble_eq_true rfl) (dk_at dkX5_readPart_3 5 rfl) (fun z121 A122 H locs hw123 hP hS => ?_)
          have ghw123 : q_X8_add ta (-2) A17 z121 A122 := hw123
          obtain ⟨_, hI, hf124, hw123⟩ := hw123
          have e129 : A1 3 4 = (A 3 4) := (hf3 3 4 rfl rfl)
          have e128 : A7 3 4 = (A 3 4) := (hf9 3 4 rfl rfl).trans e129
          have e127 : A12 3 4 = (A 3 4) := (hf14 3 4 rfl rfl).trans e128
          have e126 : A17 3 4 = (A 3 4) := (hf19 3 4 rfl rfl).trans e127
          have e125 : A122 3 4 = (A 3 4) := (hf124 3 4 rfl rfl).trans e126
          have r130 : (0 : Int) ≤ (A 3 4) ∧ (A 3 4) ≤ 8 := by rw [← e125]; exact irRD_4 hI
          exact RET z121 _ _ _ _ _ ⟨(u_r_X5_readPart ⟨A1, ghw2, (Or.inl ⟨c5, ⟨z6, A7, ghw8, (Or.inl ⟨c10, ⟨z11, A12, ghw13, (Or.inl ⟨c15, ⟨z16, A17, ghw18, (Or.inr ⟨c20, ⟨z121, A122, ghw123, ⟨rfl, rfl⟩⟩⟩)⟩⟩)⟩⟩)⟩⟩)⟩), hI, fk.trans (fk.trans (fk.trans (fk.trans (fk.trans (fk.rf) hf3 rfl rfl) hf9 rfl rfl) hf14 rfl rfl) hf19 rfl rfl) hf124 rfl rfl, by omega⟩ hP hS (dk_at dkX5_readPart_3 6 rfl)
      · have c15 : ¬ z11 = 0 := mt (i_eq0 (rb hw13 (by decide) (by decide))).mpr c15
        refine lv_aload_n hx hb (dk_at dkX5_readPart_2 11 rfl) rfl (lv_at hl 1 rfl) ?_
        refine lv_iconst (v := iI (-1)) hx hb (dk_at dkX5_readPart_2 12 rfl) (by decide +kernel) ?_
        refine k_calli (As := [.int (iI (-1))]) (rest := []) ⟨hx, hb, hml, hown, hts⟩ hE (kc_X8_add l dC dI cB cI cJ cZ cQ aL aS q _ ta (-1) hI hta ⟨by decide, by decide⟩) (cwV 1 hts (goodVk wkq_7_33 wkq_7_34 wkq_7_35 wkq_1_35 wkq_7_36) rfl rfl rfl (by decide +kernel) ⟨by show (0) + 1 ≤ 10 * (9 - b) + 7; omega, by show 8 + (2 + 11) + (0) ≤ 400 * (9 - b) + 80; omega⟩) hK hDD hA0 hP hS ta 8 (wkE hta) rfl rfl hl.1 (Nat.le_of_ble_eq_true rfl) (dk_at dkX5_readPart_2 13 rfl) (fun z131 A132 H locs hw133 hP hS => ?_)
        have ghw133 : q_X8_add ta (-1) A12 z131 A132 := hw133
        obtain ⟨_, hI, hf134, hw133⟩ := hw133
        have e138 : A1 3 4 = (A 3 4) := (hf3 3 4 rfl rfl)
        have e137 : A7 3 4 = (A 3 4) := (hf9 3 4 rfl rfl).trans e138
        have e136 : A12 3 4 = (A 3 4) := (hf14 3 4 rfl rfl).trans e137
        have e135 : A132 3 4 = (A 3 4) := (hf134 3 4 rfl rfl).trans e136
        have r139 : (0 : Int) ≤ (A 3 4) ∧ (A 3 4) ≤ 8 := by rw [← e135]; exact irRD_4 hI
        exact RET z131 _ _ _ _ _ ⟨(u_r_X5_readPart ⟨A1, ghw2, (Or.inl ⟨c5, ⟨z6, A7, ghw8, (Or.inl ⟨c10, ⟨z11, A12, ghw13, (Or.inr ⟨c15, ⟨z131, A132, ghw133, ⟨rfl, rfl⟩⟩⟩)⟩⟩)⟩⟩)⟩), hI, fk.trans (fk.trans (fk.trans (fk.trans (fk.rf) hf3 rfl rfl) hf9 rfl rfl) hf14 rfl rfl) hf134 rfl rfl, by omega⟩ hP hS (dk_at dkX5_readPart_2 14 rfl)
    · have c10 : ¬ z6 = 0 := mt (i_eq0 (rb hw8 (by decide) (by decide))).mpr c10
      refine lv_aload_n hx hb (dk_at dkX5_readPart_1 5 rfl) rfl (lv_at hl 0 rfl) ?_
      have e141 : A1 3 4 = (A 3 4) := (hf3 3 4 rfl rfl)
      have e140 : A7 3 4 = (A 3 4) := (hf9 3 4 rfl rfl).trans e141
      have r142 : (0 : Int) ≤ (A 3 4) ∧ (A 3 4) ≤ 8 := by rw [← e140]; exact irRD_4 hI
      refine k_calli (As := []) (rest := []) ⟨hx, hb, hml, hown, hts⟩ hE (kc_X5_enter l dC dI cB cI cJ cZ cQ aL aS q _ hI) (cwV 0 hts (goodVk wkq_7_49 wkq_7_50 wkq_7_51 wkq_5_28 wkq_7_52) rfl rfl rfl (by decide +kernel) ⟨by show (1) + 1 ≤ 10 * (9 - b) + 7; omega, by show 8 + (1 + 11) + (21) ≤ 400 * (9 - b) + 80; omega⟩) hK hDD hA0 hP hS 3 5 (wkRD) rfl rfl hl.1 (Nat.le_of_ble_eq_true rfl) (dk_at dkX5_readPart_1 6 rfl) (fun z143 A144 H locs hw145 hP hS => ?_)
      have ghw145 : q_X5_enter A7 z143 A144 := hw145
      obtain ⟨_, hI, hf146, hw145⟩ := hw145
      have r147 : (0 : Int) ≤ (A144 3 4) ∧ (A144 3 4) ≤ 8 := irRD_4 hI
      have rz143 : 0 ≤ z143 ∧ z143 ≤ 1 := hw145.1
      have hw145 := hw145.2
      refine lv_if_eq (tgt := 81) hx hb (dk_at dkX5_readPart_1 7 rfl) (by decide) (fun c148 => ?_) (fun c148 => ?_)
      · have c148 : z143 = 0 := (i_eq0 (rb rz143 (by decide) (by decide))).mp c148
        clear hw145
        refine lv_iconst (v := iI 0) hx hb (dk_at dkX5_readPart_2 5 rfl) (by decide +kernel) ?_
        exact RET 0 _ _ _ _ _ ⟨(u_r_X5_readPart ⟨A1, ghw2, (Or.inl ⟨c5, ⟨z6, A7, ghw8, (Or.inr ⟨c10, ⟨z143, A144, ghw145, (Or.inl ⟨c148, ⟨rfl, rfl⟩⟩)⟩⟩)⟩⟩)⟩), hI, fk.trans (fk.trans (fk.trans (fk.rf) hf3 rfl rfl) hf9 rfl rfl) hf146 rfl rfl, by omega⟩ hP hS (dk_at dkX5_readPart_2 6 rfl)
      · have c148 : ¬ z143 = 0 := mt (i_eq0 (rb rz143 (by decide) (by decide))).mpr c148
        have hw145b := hw145 (by omega)
        clear hw145
        refine lv_aload_n hx hb (dk_at dkX5_readPart_1 8 rfl) rfl (lv_at hl 0 rfl) ?_
        refine lv_aload_n hx hb (dk_at dkX5_readPart_1 9 rfl) rfl (lv_at hl 1 rfl) ?_
        refine k_calli (As := [.ref (q ta)]) (rest := []) ⟨hx, hb, hml, hown, hts⟩ hE (IHs _ hI (by omega) (by omega)) (cwV 1 hts (goodVk wkq_8_1 wkq_8_2 wkq_8_3 wkq_5_28 wkq_8_4) rfl rfl rfl (by decide +kernel) ⟨by show (10 * (9 - (b + 1)) + 9) + 1 ≤ 10 * (9 - b) + 7; omega, by show 8 + (4 + 11) + (400 * (9 - (b + 1)) + 160) ≤ 400 * (9 - b) + 80; omega⟩) hK hDD hA0 hP hS 3 5 (wkRD) rfl rfl hl.1 (Nat.le_of_ble_eq_true rfl) (dk_at dkX5_readPart_1 10 rfl) (fun z149 A150 H locs hw151 hP hS => ?_)
        have ghw151 : q_SS_sum SS A144 z149 A150 := hw151
        obtain ⟨_, hI, hf152, hw151⟩ := hw151
        have r153 : (0 : Int) ≤ (A150 3 4) ∧ (A150 3 4) ≤ 8 := irRD_4 hI
        have rz149 : 0 ≤ z149 ∧ z149 ≤ 1 := hw151.1
        have hw151 := hw151.2
        refine lv_if_eq (tgt := 81) hx hb (dk_at dkX5_readPart_1 11 rfl) (by decide) (fun c154 => ?_) (fun c154 => ?_)
        · have c154 : z149 = 0 := (i_eq0 (rb rz149 (by decide) (by decide))).mp c154
          clear hw151
          refine lv_iconst (v := iI 0) hx hb (dk_at dkX5_readPart_2 5 rfl) (by decide +kernel) ?_
          exact RET 0 _ _ _ _ _ ⟨(u_r_X5_readPart ⟨A1, ghw2, (Or.inl ⟨c5, ⟨z6, A7, ghw8, (Or.inr ⟨c10, ⟨z143, A144, ghw145, (Or.inr ⟨c148, ⟨z149, A150, ghw151, (Or.inl ⟨c154, ⟨rfl, rfl⟩⟩)⟩⟩)⟩⟩)⟩⟩)⟩), hI, fk.trans (fk.trans (fk.trans (fk.trans (fk.rf) hf3 rfl rfl) hf9 rfl rfl) hf146 rfl rfl) hf152 rfl rfl, by omega⟩ hP hS (dk_at dkX5_readPart_2 6 rfl)
        · have c154 : ¬ z149 = 0 := mt (i_eq0 (rb rz149 (by decide) (by decide))).mpr c154
          have hw151b := hw151 (by omega)
          clear hw151
          refine lv_aload_n hx hb (dk_at dkX5_readPart_1 12 rfl) rfl (lv_at hl 0 rfl) ?_
          refine lv_bipush (v := iI 41) hx hb (dk_at dkX5_readPart_1 13 rfl) (by decide +kernel) ?_
          refine k_calli (As := [.int (iI 41)]) (rest := []) ⟨hx, hb, hml, hown, hts⟩ hE (kc_X5_sign l dC dI cB cI cJ cZ cQ aL aS q _ 41 hI ⟨by decide, by decide⟩) (cwV 1 hts (goodVk wkq_7_53 wkq_7_54 wkq_7_55 wkq_5_28 wkq_7_56) rfl rfl rfl (by decide +kernel) ⟨by show (2) + 1 ≤ 10 * (9 - b) + 7; omega, by show 8 + (2 + 11) + (45) ≤ 400 * (9 - b) + 80; omega⟩) hK hDD hA0 hP hS 3 5 (wkRD) rfl rfl hl.1 (Nat.le_of_ble_eq_true rfl) (dk_at dkX5_readPart_1 14 rfl) (fun z155 A156 H locs hw157 hP hS => ?_)
          have ghw157 : q_X5_sign 41 A150 z155 A156 := hw157
          obtain ⟨_, hI, hf158, hw157⟩ := hw157
          refine lv_if_eq (tgt := 81) hx hb (dk_at dkX5_readPart_1 15 rfl) (by decide) (fun c159 => ?_) (fun c159 => ?_)
          · have c159 : z155 = 0 := (i_eq0 (rb hw157 (by decide) (by decide))).mp c159
            refine lv_iconst (v := iI 0) hx hb (dk_at dkX5_readPart_2 5 rfl) (by decide +kernel) ?_
            have e160 : A156 3 4 = (A150 3 4) := (hf158 3 4 rfl rfl)
            exact RET 0 _ _ _ _ _ ⟨(u_r_X5_readPart ⟨A1, ghw2, (Or.inl ⟨c5, ⟨z6, A7, ghw8, (Or.inr ⟨c10, ⟨z143, A144, ghw145, (Or.inr ⟨c148, ⟨z149, A150, ghw151, (Or.inr ⟨c154, ⟨z155, A156, ghw157, (Or.inl ⟨c159, ⟨rfl, rfl⟩⟩)⟩⟩)⟩⟩)⟩⟩)⟩⟩)⟩), hI, fk.trans (fk.trans (fk.trans (fk.trans (fk.trans (fk.rf) hf3 rfl rfl) hf9 rfl rfl) hf146 rfl rfl) hf152 rfl rfl) hf158 rfl rfl, by omega⟩ hP hS (dk_at dkX5_readPart_2 6 rfl)
          · have c159 : ¬ z155 = 0 := mt (i_eq0 (rb hw157 (by decide) (by decide))).mpr c159
            refine lv_aload_n hx hb (dk_at dkX5_readPart_2 0 rfl) rfl (lv_at hl 0 rfl) ?_
            have e161 : A156 3 4 = (A150 3 4) := (hf158 3 4 rfl rfl)
            refine k_calli (As := []) (rest := []) ⟨hx, hb, hml, hown, hts⟩ hE (kc_X5_leave l dC dI cB cI cJ cZ cQ aL aS q _ hI (by omega)) (cwV 0 hts (goodVk wkq_7_57 wkq_7_58 wkq_7_59 wkq_5_28 wkq_8_0) rfl rfl rfl (by decide +kernel) ⟨by show (0) + 1 ≤ 10 * (9 - b) + 7; omega, by show 8 + (1 + 11) + (0) ≤ 400 * (9 - b) + 80; omega⟩) hK hDD hA0 hP hS 3 5 (wkRD) rfl rfl hl.1 (Nat.le_of_ble_eq_true rfl) (dk_at dkX5_readPart_2 1 rfl) (fun z162 A163 H locs hw164 hP hS => ?_)
            have ghw164 : q_X5_leave A156 z162 A163 := hw164
            obtain ⟨_, hI, hf165, hw164⟩ := hw164
            have r166 : (0 : Int) ≤ (A163 3 4) ∧ (A163 3 4) ≤ 8 := irRD_4 hI
            have rz162 : 0 ≤ z162 ∧ z162 ≤ 1 := hw164.1
            have hw164 := hw164.2
            refine lv_if_eq (tgt := 81) hx hb (dk_at dkX5_readPart_2 2 rfl) (by decide) (fun c167 => False.elim (by have c167 : z162 = 0 := (i_eq0 (rb rz162 (by decide) (by decide))).mp c167; omega)) (fun _ => ?_)
            refine lv_iconst (v := iI 1) hx hb (dk_at dkX5_readPart_2 3 rfl) (by decide +kernel) ?_
            refine lv_goto (tgt := 82) hx hb (dk_at dkX5_readPart_2 4 rfl) (by decide) ?_
            exact RET 1 _ _ _ _ _ ⟨(u_r_X5_readPart ⟨A1, ghw2, (Or.inl ⟨c5, ⟨z6, A7, ghw8, (Or.inr ⟨c10, ⟨z143, A144, ghw145, (Or.inr ⟨c148, ⟨z149, A150, ghw151, (Or.inr ⟨c154, ⟨z155, A156, ghw157, (Or.inr ⟨c159, ⟨z162, A163, ghw164, ⟨rfl, rfl⟩⟩⟩)⟩⟩)⟩⟩)⟩⟩)⟩⟩)⟩), hI, fk.trans (fk.trans (fk.trans (fk.trans (fk.trans (fk.trans (fk.rf) hf3 rfl rfl) hf9 rfl rfl) hf146 rfl rfl) hf152 rfl rfl) hf158 rfl rfl) hf165 rfl rfl, by omega⟩ hP hS (dk_at dkX5_readPart_2 6 rfl)
  · have c5 : (A1 5 2) = 2 := (i_eq (rb r4 (by decide) (by decide)) ⟨by decide, by decide⟩).mp c5
    refine lv_aload_n hx hb (dk_at dkX5_readPart_0 8 rfl) rfl (lv_at hl 0 rfl) ?_
    refine va_get (D := (dC, dI)) (ci := 5) (v := .ref (q 5)) (C := RX5) (T := TX5) (N := 5) hx hb hts hiX5 hown hK hP 3 (wkRD) rfl 0 (by decide) (hts _ (List.mem_cons_of_mem _ wkq_5_6)) (fun _ h9 => h9) rfl (dk_at dkX5_readPart_0 9 rfl) ?_
    refine k_callv (As := []) (rest := []) ⟨hx, hb, hml, hown, hts⟩ hE (kc_X3_pass l dC dI cB cI cJ cZ cQ aL aS q _ hI) (cwV 0 hts (goodVk wkq_5_42 wkq_5_43 wkq_5_44 wkq_4_10 wkq_3_58) rfl rfl rfl (by decide +kernel) ⟨by show (0) + 1 ≤ 10 * (9 - b) + 7; omega, by show 8 + (1 + 11) + (0) ≤ 400 * (9 - b) + 80; omega⟩) hK hDD hA0 hP hS 5 3 (wkLX) rfl rfl hl.1 (Nat.le_of_ble_eq_true rfl) (dk_at dkX5_readPart_0 10 rfl) (fun A168 H locs hw169 hP hS => ?_)
    have ghw169 : q_X3_pass A1 A168 := hw169
    obtain ⟨_, hI, hf170, hw169⟩ := hw169
    clear hw169
    refine lv_aload_n hx hb (dk_at dkX5_readPart_0 11 rfl) rfl (lv_at hl 1 rfl) ?_
    refine lv_aload_n hx hb (dk_at dkX5_readPart_0 12 rfl) rfl (lv_at hl 0 rfl) ?_
    refine va_get (D := (dC, dI)) (ci := 5) (v := .ref (q 5)) (C := RX5) (T := TX5) (N := 5) hx hb hts hiX5 hown hK hP 3 (wkRD) rfl 0 (by decide) (hts _ (List.mem_cons_of_mem _ wkq_5_6)) (fun _ h9 => h9) rfl (dk_at dkX5_readPart_0 13 rfl) ?_
    have e171 : A168 5 4 = (A1 5 4) := (hf170 5 4 rfl rfl)
    have r172 : (-2147483648 : Int) ≤ (A1 5 4) ∧ (A1 5 4) ≤ 2147483647 := by rw [← e171]; exact irLX_4 hI
    refine va_get (D := (dC, dI)) (ci := 3) (v := .int (iI (A168 5 4))) (C := RX3) (T := TX3) (N := 7) hx hb hts hiX3 hown hK hP 5 (wkLX) rfl 4 (by decide) (hts _ (List.mem_cons_of_mem _ wkq_5_30)) (fun _ h9 => h9) rfl (dk_at dkX5_readPart_0 14 rfl) ?_
    refine tp_i (y := iI (A1 5 4)) (congrArg iI e171) ?_
    refine k_calli (As := [.int (iI (A1 5 4))]) (rest := []) ⟨hx, hb, hml, hown, hts⟩ hE (kc_X8_add l dC dI cB cI cJ cZ cQ aL aS q _ ta (A1 5 4) hI hta r172) (cwV 1 hts (goodVk wkq_7_33 wkq_7_34 wkq_7_35 wkq_1_35 wkq_7_36) rfl rfl rfl (by decide +kernel) ⟨by show (0) + 1 ≤ 10 * (9 - b) + 7; omega, by show 8 + (2 + 11) + (0) ≤ 400 * (9 - b) + 80; omega⟩) hK hDD hA0 hP hS ta 8 (wkE hta) rfl rfl hl.1 (Nat.le_of_ble_eq_true rfl) (dk_at dkX5_readPart_0 15 rfl) (fun z173 A174 H locs hw175 hP hS => ?_)
    have ghw175 : q_X8_add ta (A1 5 4) A168 z173 A174 := hw175
    obtain ⟨_, hI, hf176, hw175⟩ := hw175
    have e179 : A1 3 4 = (A 3 4) := (hf3 3 4 rfl rfl)
    have e178 : A168 3 4 = (A 3 4) := (hf170 3 4 rfl rfl).trans e179
    have e177 : A174 3 4 = (A 3 4) := (hf176 3 4 rfl rfl).trans e178
    have r180 : (0 : Int) ≤ (A 3 4) ∧ (A 3 4) ≤ 8 := by rw [← e177]; exact irRD_4 hI
    exact RET z173 _ _ _ _ _ ⟨(u_r_X5_readPart ⟨A1, ghw2, (Or.inr ⟨c5, ⟨A168, ghw169, ⟨z173, A174, ghw175, ⟨rfl, rfl⟩⟩⟩⟩)⟩), hI, fk.trans (fk.trans (fk.trans (fk.rf) hf3 rfl rfl) hf170 rfl rfl) hf176 rfl rfl, by omega⟩ hP hS (dk_at dkX5_readPart_1 0 rfl)

abbrev tr_d_X5_readProduct_2 (K1 : Int → St → Prop) (SS : St → Int → St → Prop) (b : Nat) (ta : Nat) (z8 : Int) (z : Int) (u : St) (z38 : Int) (A40 : St) : Prop := ((IK A40) ∧ ((-16 ≤ z38 ∧ z38 ≤ -14) ∧ (∃ z45 : Int, ∃ A46 : St, q_X5_readPart SS b ta A40 z45 A46 ∧ (((z45 = 0) ∧ (z = 0 ∧ u = A46)) ∨ ((¬ z45 = 0) ∧ (∃ z51 : Int, ∃ A52 : St, q_X8_add ta z38 A46 z51 A52 ∧ (((¬ z51 = 0) ∧ (K1 (z8 + 1) A52)) ∨ ((z51 = 0) ∧ (z = 0 ∧ u = A52)))))))))
def d_X5_readProduct_2 (K1 : Int → St → Prop) (SS : St → Int → St → Prop) (b : Nat) (ta : Nat) (z8 : Int) (z : Int) (u : St) (z38 : Int) (A40 : St) : Prop := tr_d_X5_readProduct_2 K1 SS b ta z8 z u z38 A40
theorem u_d_X5_readProduct_2 {K1 : Int → St → Prop} {SS : St → Int → St → Prop} {b : Nat} {ta : Nat} {z8 : Int} {z : Int} {u : St} {z38 : Int} {A40 : St} (h : tr_d_X5_readProduct_2 K1 SS b ta z8 z u z38 A40) : d_X5_readProduct_2 K1 SS b ta z8 z u z38 A40 := h
abbrev tr_d_X5_readProduct_1 (SS : St → Int → St → Prop) (b : Nat) (ta : Nat) (z : Int) (u : St) (K1 : Int → St → Prop) (z8 : Int) (A10 : St) : Prop := ((IK A10) ∧ ((0 ≤ z8 ∧ z8 ≤ 2147483647) ∧ (((1600 ≤ z8) ∧ (z = 0 ∧ u = A10)) ∨ ((¬ 1600 ≤ z8) ∧ (∃ z19 : Int, ∃ A20 : St, q_X5_passesSign 47 A10 z19 A20 ∧ (((z19 = 0) ∧ (∃ z25 : Int, ∃ A26 : St, q_X5_passesSign 37 A20 z25 A26 ∧ (((z25 = 0) ∧ (∃ z30 : Int, ∃ A31 : St, q_X5_passesSign 42 A26 z30 A31 ∧ (((¬ z30 = 0) ∧ (d_X5_readProduct_2 K1 SS b ta z8 z u (-14) A31)) ∨ ((z30 = 0) ∧ (z = 1 ∧ u = A31))))) ∨ ((¬ z25 = 0) ∧ (d_X5_readProduct_2 K1 SS b ta z8 z u (-16) A26))))) ∨ ((¬ z19 = 0) ∧ (d_X5_readProduct_2 K1 SS b ta z8 z u (-15) A20))))))))
def d_X5_readProduct_1 (SS : St → Int → St → Prop) (b : Nat) (ta : Nat) (z : Int) (u : St) : Nat → Int → St → Prop
  | 0, _, _ => False
  | nn9 + 1, z8, A10 => tr_d_X5_readProduct_1 SS b ta z u (fun z8 A10 => d_X5_readProduct_1 SS b ta z u nn9 z8 A10) z8 A10
theorem u_d_X5_readProduct_1 {SS : St → Int → St → Prop} {b : Nat} {ta : Nat} {z : Int} {u : St} {nn9 : Nat} {z8 : Int} {A10 : St} (h : tr_d_X5_readProduct_1 SS b ta z u (fun z8 A10 => d_X5_readProduct_1 SS b ta z u nn9 z8 A10) z8 A10) : d_X5_readProduct_1 SS b ta z u (nn9 + 1) z8 A10 := h
abbrev tr_r_X5_readProduct (SS : St → Int → St → Prop) (b : Nat) (ta : Nat) (A : St) (z : Int) (u : St) : Prop := (∃ z2 : Int, ∃ A3 : St, q_X5_readPart SS b ta A z2 A3 ∧ (((¬ z2 = 0) ∧ (∃ nn9 : Nat, d_X5_readProduct_1 SS b ta z u nn9 0 A3)) ∨ ((z2 = 0) ∧ (z = 0 ∧ u = A3))))
def r_X5_readProduct (SS : St → Int → St → Prop) (b : Nat) (ta : Nat) (A : St) (z : Int) (u : St) : Prop := tr_r_X5_readProduct SS b ta A z u
theorem u_r_X5_readProduct {SS : St → Int → St → Prop} {b : Nat} {ta : Nat} {A : St} {z : Int} {u : St} (h : tr_r_X5_readProduct SS b ta A z u) : r_X5_readProduct SS b ta A z u := h
def q_X5_readProduct (SS : St → Int → St → Prop) (b : Nat) (ta : Nat) (A : St) (z : Int) (u : St) : Prop := r_X5_readProduct SS b ta A z u ∧ IK u ∧ fk [71, 102] [(3, 2), (3, 3), (3, 4), (5, 1), (5, 2), (5, 3), (5, 4), (5, 5), (5, 6), (70, 2), (101, 2)] A u ∧ ((0 ≤ z ∧ z ≤ 1) ∧ (z = 1 → u 3 4 = A 3 4))
set_option maxHeartbeats 4000000 in
set_option maxRecDepth 100000 in
theorem kc_X5_readProduct (l : Launch) (dC : Nat → ClassId) (dI : Nat → Nat → Nat) (cB cI cJ cZ cQ : ClassId) (aL aS : Nat) (q : Nat → Nat) (SS : St → Int → St → Prop) (b : Nat) (A : St) (ta : Nat) (hI : IK A) (hta : isE ta) (hp0 : A 3 4 = (b : Int)) (hp1 : b ≤ 8) (IHs : ∀ A : St, IK A → A 3 4 = (b : Int) + 1 → b + 1 ≤ 8 → KMi l yX5_readSum ws_kc_X5_readSum (rqm 4 (b + 1)) aL aS (dC, dI) (tyA cB cI cJ cZ cQ) (WK cB cI cJ cZ cQ q) A [.ref (q 3), .ref (q ta)] (fun z u => SS A z u ∧ IK u ∧ fk [71, 102] [(3, 2), (3, 3), (3, 4), (5, 1), (5, 2), (5, 3), (5, 4), (5, 5), (5, 6), (70, 2), (101, 2)] A u ∧ ((0 ≤ z ∧ z ≤ 1) ∧ (z = 1 → u 3 4 = A 3 4)))) : KMi l yX5_readProduct ws_kc_X5_readProduct (rqm 3 b) aL aS (dC, dI) (tyA cB cI cJ cZ cQ) (WK cB cI cJ cZ cQ q) A [.ref (q 3), .ref (q ta)] (fun z u => r_X5_readProduct SS b ta A z u ∧ IK u ∧ fk [71, 102] [(3, 2), (3, 3), (3, 4), (5, 1), (5, 2), (5, 3), (5, 4), (5, 5), (5, 6), (70, 2), (101, 2)] A u ∧ ((0 ≤ z ∧ z ≤ 1) ∧ (z = 1 → u 3 4 = A 3 4))) := by
  refine k_metz (cc := cX5_readProduct) (maxL := 4) WK_adr (plainFor_of_name (by decide +kernel)) rfl (Nat.le_of_ble_eq_true rfl) (fun z u h => h.2.2.2.1) (fun p e s m below meth c Q AS ls hx hb hml hown hts hK hDD hA0 hE RET H locs hP hS hl => ?_)
  have hown : s.vm.findClass RX5 = some m.cls := hown
  have hl : lv_has ls 4 [(0, .ref (q 3)), (1, .ref (q ta))] := hl
  refine lv_aload_n hx hb (dk_at dkX5_readProduct_0 0 rfl) rfl (lv_at hl 0 rfl) ?_
  refine lv_aload_n hx hb (dk_at dkX5_readProduct_0 1 rfl) rfl (lv_at hl 1 rfl) ?_
  have r1 : (0 : Int) ≤ (A 3 4) ∧ (A 3 4) ≤ 8 := irRD_4 hI
  refine k_calli (As := [.ref (q ta)]) (rest := []) ⟨hx, hb, hml, hown, hts⟩ hE (kc_X5_readPart l dC dI cB cI cJ cZ cQ aL aS q SS b _ ta hI hta (by omega) (by omega) IHs) (cwV 1 hts (goodVk wkq_8_14 wkq_8_15 wkq_8_16 wkq_5_28 wkq_8_9) rfl rfl rfl (by decide +kernel) ⟨by show (10 * (9 - b) + 7) + 1 ≤ 10 * (9 - b) + 8; omega, by show 8 + (2 + 11) + (400 * (9 - b) + 80) ≤ 400 * (9 - b) + 120; omega⟩) hK hDD hA0 hP hS 3 5 (wkRD) rfl rfl hl.1 (Nat.le_of_ble_eq_true rfl) (dk_at dkX5_readProduct_0 2 rfl) (fun z2 A3 H locs hw4 hP hS => ?_)
  have ghw4 : q_X5_readPart SS b ta A z2 A3 := hw4
  obtain ⟨_, hI, hf5, hw4⟩ := hw4
  have r6 : (0 : Int) ≤ (A3 3 4) ∧ (A3 3 4) ≤ 8 := irRD_4 hI
  have rz2 : 0 ≤ z2 ∧ z2 ≤ 1 := hw4.1
  have hw4 := hw4.2
  refine lv_if_ne (tgt := 10) hx hb (dk_at dkX5_readProduct_0 3 rfl) (by decide) (fun c7 => ?_) (fun c7 => ?_)
  · have c7 : ¬ z2 = 0 := mt (i_eq0 (rb rz2 (by decide) (by decide))).mpr c7
    have hw4b := hw4 (by omega)
    clear hw4
    refine lv_iconst (v := iI 0) hx hb (dk_at dkX5_readProduct_0 6 rfl) (by decide +kernel) ?_
    refine lv_istore_n (lv' := [(2, .int (iI 0)), (0, .ref (q 3)), (1, .ref (q ta))]) hx hb (dk_at dkX5_readProduct_0 7 rfl) rfl hl (by decide) rfl (fun ls hl => ?_)
    have L12_11 : ∀ (n15 : Nat) (z8 : Int) (A10 : St) (H : Heap) (locs : List Loc) (ls : Array Slot), (0 ≤ z8 ∧ z8 ≤ 2147483647) → (A10 3 4 = A 3 4) → (∀ (z : Int) (u : St), (∃ mm1 : Nat, (d_X5_readProduct_1 SS b ta z u mm1 z8 A10)) → r_X5_readProduct SS b ta A z u) → ((1601 - z8).toNat = n15) → IK A10 → fk [71, 102] [(3, 2), (3, 3), (3, 4), (5, 1), (5, 2), (5, 3), (5, 4), (5, 5), (5, 6), (70, 2), (101, 2)] A3 A10 → va_P (dC, dI) vwCl (WK cB cI cJ cZ cQ q A10) H → va_S AS s.heap H locs → lv_has ls 4 [(2, .int (iI z8)), (0, .ref (q 3)), (1, .ref (q ta))] → W p l e (headSpec ws_kc_X5_readProduct (rqm 3 b)).room s m [.ref (q 3), .ref (q ta)].toArray below meth c H locs 0 0 Q (F0 m 12 ls []) := by
      intro n15
      induction n15 using Nat.strongRecOn with
      | ind n15 ih12 =>
        intro z8 A10 H locs ls f13 f14 hk1 hn15 hI hj9 hP hS hl
        have gI16 : Hd (IK A10) := Hd.mk hI
        have r17 : (0 : Int) ≤ (A10 3 4) ∧ (A10 3 4) ≤ 8 := irRD_4 hI
        refine lv_iload_n hx hb (dk_at dkX5_readProduct_0 8 rfl) rfl (lv_at hl 0 rfl) ?_
        refine lv_sipush (v := iI 1600) hx hb (dk_at dkX5_readProduct_0 9 rfl) (by decide +kernel) ?_
        refine lv_icmp_ge (tgt := 87) hx hb (dk_at dkX5_readProduct_0 10 rfl) (by decide) (fun c18 => ?_) (fun c18 => ?_)
        · have c18 : 1600 ≤ z8 := (i_le ⟨by decide, by decide⟩ (rb f13 (by decide) (by decide))).mp c18
          refine lv_iconst (v := iI 0) hx hb (dk_at dkX5_readProduct_2 13 rfl) (by decide +kernel) ?_
          exact RET 0 _ _ _ _ _ ⟨hk1 _ _ ⟨0 + 1, (u_d_X5_readProduct_1 ⟨gI16.out, ⟨f13, (Or.inl ⟨c18, ⟨rfl, rfl⟩⟩)⟩⟩)⟩, hI, fk.trans (fk.trans (fk.rf) hf5 rfl rfl) hj9 rfl rfl, by omega⟩ hP hS (dk_at dkX5_readProduct_2 14 rfl)
        · have c18 : ¬ 1600 ≤ z8 := mt (i_le ⟨by decide, by decide⟩ (rb f13 (by decide) (by decide))).mpr c18
          refine lv_bipush (v := iI (-14)) hx hb (dk_at dkX5_readProduct_0 11 rfl) (by decide +kernel) ?_
          refine lv_istore_n (lv' := [(3, .int (iI (-14))), (2, .int (iI z8)), (0, .ref (q 3)), (1, .ref (q ta))]) hx hb (dk_at dkX5_readProduct_0 12 rfl) rfl hl (by decide) rfl (fun ls hl => ?_)
          refine lv_aload_n hx hb (dk_at dkX5_readProduct_0 13 rfl) rfl (lv_at hl 2 rfl) ?_
          refine lv_bipush (v := iI 47) hx hb (dk_at dkX5_readProduct_0 14 rfl) (by decide +kernel) ?_
          refine k_calli (As := [.int (iI 47)]) (rest := []) ⟨hx, hb, hml, hown, hts⟩ hE (kc_X5_passesSign l dC dI cB cI cJ cZ cQ aL aS q _ 47 hI ⟨by decide, by decide⟩) (cwV 1 hts (goodVk wkq_7_42 wkq_7_43 wkq_7_44 wkq_5_28 wkq_7_45) rfl rfl rfl (by decide +kernel) ⟨by show (2) + 1 ≤ 10 * (9 - b) + 8; omega, by show 8 + (2 + 11) + (45) ≤ 400 * (9 - b) + 120; omega⟩) hK hDD hA0 hP hS 3 5 (wkRD) rfl rfl hl.1 (Nat.le_of_ble_eq_true rfl) (dk_at dkX5_readProduct_0 15 rfl) (fun z19 A20 H locs hw21 hP hS => ?_)
          have ghw21 : q_X5_passesSign 47 A10 z19 A20 := hw21
          obtain ⟨_, hI, hf22, hw21⟩ := hw21
          have J63_24 : ∀ (z38 : Int) (A40 : St) (H : Heap) (locs : List Loc) (ls : Array Slot), (-16 ≤ z38 ∧ z38 ≤ -14) → (∀ (z : Int) (u : St), (∃ mm1 : Nat, (d_X5_readProduct_2 (fun z8' A10' => d_X5_readProduct_1 SS b ta z u mm1 z8' A10') SS b ta z8 z u z38 A40)) → r_X5_readProduct SS b ta A z u) → IK A40 → fk [] [(5, 1), (5, 2), (5, 3), (5, 4), (5, 5), (5, 6)] A20 A40 → va_P (dC, dI) vwCl (WK cB cI cJ cZ cQ q A40) H → va_S AS s.heap H locs → lv_has ls 4 [(3, .int (iI z38)), (2, .int (iI z8)), (0, .ref (q 3)), (1, .ref (q ta))] → W p l e (headSpec ws_kc_X5_readProduct (rqm 3 b)).room s m [.ref (q 3), .ref (q ta)].toArray below meth c H locs 0 0 Q (F0 m 63 ls []) := by
            intro z38 A40 H locs ls f41 hk2 hI hj39 hP hS hl
            have gI42 : Hd (IK A40) := Hd.mk hI
            refine lv_aload_n hx hb (dk_at dkX5_readProduct_2 1 rfl) rfl (lv_at hl 2 rfl) ?_
            refine lv_aload_n hx hb (dk_at dkX5_readProduct_2 2 rfl) rfl (lv_at hl 3 rfl) ?_
            have e44 : A20 3 4 = (A10 3 4) := (hf22 3 4 rfl rfl)
            have e43 : A40 3 4 = (A10 3 4) := (hj39 3 4 rfl rfl).trans e44
            refine k_calli (As := [.ref (q ta)]) (rest := []) ⟨hx, hb, hml, hown, hts⟩ hE (kc_X5_readPart l dC dI cB cI cJ cZ cQ aL aS q SS b _ ta hI hta (by omega) (by omega) IHs) (cwV 1 hts (goodVk wkq_8_14 wkq_8_15 wkq_8_16 wkq_5_28 wkq_8_9) rfl rfl rfl (by decide +kernel) ⟨by show (10 * (9 - b) + 7) + 1 ≤ 10 * (9 - b) + 8; omega, by show 8 + (2 + 11) + (400 * (9 - b) + 80) ≤ 400 * (9 - b) + 120; omega⟩) hK hDD hA0 hP hS 3 5 (wkRD) rfl rfl hl.1 (Nat.le_of_ble_eq_true rfl) (dk_at dkX5_readProduct_2 3 rfl) (fun z45 A46 H locs hw47 hP hS => ?_)
            have ghw47 : q_X5_readPart SS b ta A40 z45 A46 := hw47
            obtain ⟨_, hI, hf48, hw47⟩ := hw47
            have r49 : (0 : Int) ≤ (A46 3 4) ∧ (A46 3 4) ≤ 8 := irRD_4 hI
            have rz45 : 0 ≤ z45 ∧ z45 ≤ 1 := hw47.1
            have hw47 := hw47.2
            refine lv_if_eq (tgt := 79) hx hb (dk_at dkX5_readProduct_2 4 rfl) (by decide) (fun c50 => ?_) (fun c50 => ?_)
            · have c50 : z45 = 0 := (i_eq0 (rb rz45 (by decide) (by decide))).mp c50
              clear hw47
              refine lv_iconst (v := iI 0) hx hb (dk_at dkX5_readProduct_2 9 rfl) (by decide +kernel) ?_
              exact RET 0 _ _ _ _ _ ⟨hk2 _ _ ⟨0, (u_d_X5_readProduct_2 ⟨gI42.out, ⟨f41, ⟨z45, A46, ghw47, (Or.inl ⟨c50, ⟨rfl, rfl⟩⟩)⟩⟩⟩)⟩, hI, fk.trans (fk.trans (fk.trans (fk.trans (fk.trans (fk.rf) hf5 rfl rfl) hj9 rfl rfl) hf22 rfl rfl) hj39 rfl rfl) hf48 rfl rfl, by omega⟩ hP hS (dk_at dkX5_readProduct_2 10 rfl)
            · have c50 : ¬ z45 = 0 := mt (i_eq0 (rb rz45 (by decide) (by decide))).mpr c50
              have hw47b := hw47 (by omega)
              clear hw47
              refine lv_aload_n hx hb (dk_at dkX5_readProduct_2 5 rfl) rfl (lv_at hl 3 rfl) ?_
              refine lv_iload_n hx hb (dk_at dkX5_readProduct_2 6 rfl) rfl (lv_at hl 0 rfl) ?_
              refine k_calli (As := [.int (iI z38)]) (rest := []) ⟨hx, hb, hml, hown, hts⟩ hE (kc_X8_add l dC dI cB cI cJ cZ cQ aL aS q _ ta z38 hI hta (rb f41 (by decide) (by decide))) (cwV 1 hts (goodVk wkq_7_33 wkq_7_34 wkq_7_35 wkq_1_35 wkq_7_36) rfl rfl rfl (by decide +kernel) ⟨by show (0) + 1 ≤ 10 * (9 - b) + 8; omega, by show 8 + (2 + 11) + (0) ≤ 400 * (9 - b) + 120; omega⟩) hK hDD hA0 hP hS ta 8 (wkE hta) rfl rfl hl.1 (Nat.le_of_ble_eq_true rfl) (dk_at dkX5_readProduct_2 7 rfl) (fun z51 A52 H locs hw53 hP hS => ?_)
              have ghw53 : q_X8_add ta z38 A46 z51 A52 := hw53
              obtain ⟨_, hI, hf54, hw53⟩ := hw53
              refine lv_if_ne (tgt := 81) hx hb (dk_at dkX5_readProduct_2 8 rfl) (by decide) (fun c55 => ?_) (fun c55 => ?_)
              · have c55 : ¬ z51 = 0 := mt (i_eq0 (rb hw53 (by decide) (by decide))).mpr c55
                refine lv_iinc (v := iI (z8 + 1)) (lv' := [(2, .int (iI (z8 + 1))), (3, .int (iI z38)), (0, .ref (q 3)), (1, .ref (q ta))]) hx hb (dk_at dkX5_readProduct_2 11 rfl) hl (k := 1) rfl (i_inc (by omega)) (by decide) rfl (fun ls hl => ?_)
                refine lv_goto (tgt := 12) hx hb (dk_at dkX5_readProduct_2 12 rfl) (by decide) ?_
                have e56 : A52 3 4 = (A46 3 4) := (hf54 3 4 rfl rfl)
                exact ih12 _ (by omega) (z8 + 1) _ _ _ _ (by omega) (by omega) (fun zq uq ⟨mm1, hq⟩ => hk2 _ _ ⟨mm1, (u_d_X5_readProduct_2 ⟨gI42.out, ⟨f41, ⟨z45, A46, ghw47, (Or.inr ⟨c50, ⟨z51, A52, ghw53, (Or.inl ⟨c55, hq⟩)⟩⟩)⟩⟩⟩)⟩) rfl hI (fk.trans (fk.trans (fk.trans (fk.trans (fk.trans (fk.rf) hj9 rfl rfl) hf22 rfl rfl) hj39 rfl rfl) hf48 rfl rfl) hf54 rfl rfl) hP hS (lv_sub hl [0, 2, 3] rfl)
              · have c55 : z51 = 0 := (i_eq0 (rb hw53 (by decide) (by decide))).mp c55
                refine lv_iconst (v := iI 0) hx hb (dk_at dkX5_readProduct_2 9 rfl) (by decide +kernel) ?_
                have e57 : A52 3 4 = (A46 3 4) := (hf54 3 4 rfl rfl)
                exact RET 0 _ _ _ _ _ ⟨hk2 _ _ ⟨0, (u_d_X5_readProduct_2 ⟨gI42.out, ⟨f41, ⟨z45, A46, ghw47, (Or.inr ⟨c50, ⟨z51, A52, ghw53, (Or.inr ⟨c55, ⟨rfl, rfl⟩⟩)⟩⟩)⟩⟩⟩)⟩, hI, fk.trans (fk.trans (fk.trans (fk.trans (fk.trans (fk.trans (fk.rf) hf5 rfl rfl) hj9 rfl rfl) hf22 rfl rfl) hj39 rfl rfl) hf48 rfl rfl) hf54 rfl rfl, by omega⟩ hP hS (dk_at dkX5_readProduct_2 10 rfl)
          refine lv_if_eq (tgt := 37) hx hb (dk_at dkX5_readProduct_1 0 rfl) (by decide) (fun c23 => ?_) (fun c23 => ?_)
          · have c23 : z19 = 0 := (i_eq0 (rb hw21 (by decide) (by decide))).mp c23
            refine lv_aload_n hx hb (dk_at dkX5_readProduct_1 4 rfl) rfl (lv_at hl 2 rfl) ?_
            refine lv_bipush (v := iI 37) hx hb (dk_at dkX5_readProduct_1 5 rfl) (by decide +kernel) ?_
            refine k_calli (As := [.int (iI 37)]) (rest := []) ⟨hx, hb, hml, hown, hts⟩ hE (kc_X5_passesSign l dC dI cB cI cJ cZ cQ aL aS q _ 37 hI ⟨by decide, by decide⟩) (cwV 1 hts (goodVk wkq_7_42 wkq_7_43 wkq_7_44 wkq_5_28 wkq_7_45) rfl rfl rfl (by decide +kernel) ⟨by show (2) + 1 ≤ 10 * (9 - b) + 8; omega, by show 8 + (2 + 11) + (45) ≤ 400 * (9 - b) + 120; omega⟩) hK hDD hA0 hP hS 3 5 (wkRD) rfl rfl hl.1 (Nat.le_of_ble_eq_true rfl) (dk_at dkX5_readProduct_1 6 rfl) (fun z25 A26 H locs hw27 hP hS => ?_)
            have ghw27 : q_X5_passesSign 37 A20 z25 A26 := hw27
            obtain ⟨_, hI, hf28, hw27⟩ := hw27
            refine lv_if_eq (tgt := 52) hx hb (dk_at dkX5_readProduct_1 7 rfl) (by decide) (fun c29 => ?_) (fun c29 => ?_)
            · have c29 : z25 = 0 := (i_eq0 (rb hw27 (by decide) (by decide))).mp c29
              refine lv_aload_n hx hb (dk_at dkX5_readProduct_1 11 rfl) rfl (lv_at hl 2 rfl) ?_
              refine lv_bipush (v := iI 42) hx hb (dk_at dkX5_readProduct_1 12 rfl) (by decide +kernel) ?_
              refine k_calli (As := [.int (iI 42)]) (rest := []) ⟨hx, hb, hml, hown, hts⟩ hE (kc_X5_passesSign l dC dI cB cI cJ cZ cQ aL aS q _ 42 hI ⟨by decide, by decide⟩) (cwV 1 hts (goodVk wkq_7_42 wkq_7_43 wkq_7_44 wkq_5_28 wkq_7_45) rfl rfl rfl (by decide +kernel) ⟨by show (2) + 1 ≤ 10 * (9 - b) + 8; omega, by show 8 + (2 + 11) + (45) ≤ 400 * (9 - b) + 120; omega⟩) hK hDD hA0 hP hS 3 5 (wkRD) rfl rfl hl.1 (Nat.le_of_ble_eq_true rfl) (dk_at dkX5_readProduct_1 13 rfl) (fun z30 A31 H locs hw32 hP hS => ?_)
              have ghw32 : q_X5_passesSign 42 A26 z30 A31 := hw32
              obtain ⟨_, hI, hf33, hw32⟩ := hw32
              refine lv_if_ne (tgt := 63) hx hb (dk_at dkX5_readProduct_1 14 rfl) (by decide) (fun c34 => ?_) (fun c34 => ?_)
              · have c34 : ¬ z30 = 0 := mt (i_eq0 (rb hw32 (by decide) (by decide))).mpr c34
                exact J63_24 (-14) _ _ _ _ (by omega) (fun zq uq ⟨mm1, hq⟩ => hk1 _ _ ⟨mm1 + 1, (u_d_X5_readProduct_1 ⟨gI16.out, ⟨f13, (Or.inr ⟨c18, ⟨z19, A20, ghw21, (Or.inl ⟨c23, ⟨z25, A26, ghw27, (Or.inl ⟨c29, ⟨z30, A31, ghw32, (Or.inl ⟨c34, hq⟩)⟩⟩)⟩⟩)⟩⟩)⟩⟩)⟩) hI (fk.trans (fk.trans (fk.rf) hf28 rfl rfl) hf33 rfl rfl) hP hS (lv_sub hl [0, 1, 2, 3] rfl)
              · have c34 : z30 = 0 := (i_eq0 (rb hw32 (by decide) (by decide))).mp c34
                refine lv_iconst (v := iI 1) hx hb (dk_at dkX5_readProduct_1 15 rfl) (by decide +kernel) ?_
                have e37 : A20 3 4 = (A10 3 4) := (hf22 3 4 rfl rfl)
                have e36 : A26 3 4 = (A10 3 4) := (hf28 3 4 rfl rfl).trans e37
                have e35 : A31 3 4 = (A10 3 4) := (hf33 3 4 rfl rfl).trans e36
                exact RET 1 _ _ _ _ _ ⟨hk1 _ _ ⟨0 + 1, (u_d_X5_readProduct_1 ⟨gI16.out, ⟨f13, (Or.inr ⟨c18, ⟨z19, A20, ghw21, (Or.inl ⟨c23, ⟨z25, A26, ghw27, (Or.inl ⟨c29, ⟨z30, A31, ghw32, (Or.inr ⟨c34, ⟨rfl, rfl⟩⟩)⟩⟩)⟩⟩)⟩⟩)⟩⟩)⟩, hI, fk.trans (fk.trans (fk.trans (fk.trans (fk.trans (fk.rf) hf5 rfl rfl) hj9 rfl rfl) hf22 rfl rfl) hf28 rfl rfl) hf33 rfl rfl, by omega⟩ hP hS (dk_at dkX5_readProduct_2 0 rfl)
            · have c29 : ¬ z25 = 0 := mt (i_eq0 (rb hw27 (by decide) (by decide))).mpr c29
              refine lv_bipush (v := iI (-16)) hx hb (dk_at dkX5_readProduct_1 8 rfl) (by decide +kernel) ?_
              refine lv_istore_n (lv' := [(3, .int (iI (-16))), (2, .int (iI z8)), (0, .ref (q 3)), (1, .ref (q ta))]) hx hb (dk_at dkX5_readProduct_1 9 rfl) rfl hl (by decide) rfl (fun ls hl => ?_)
              refine lv_goto (tgt := 63) hx hb (dk_at dkX5_readProduct_1 10 rfl) (by decide) ?_
              exact J63_24 (-16) _ _ _ _ (by omega) (fun zq uq ⟨mm1, hq⟩ => hk1 _ _ ⟨mm1 + 1, (u_d_X5_readProduct_1 ⟨gI16.out, ⟨f13, (Or.inr ⟨c18, ⟨z19, A20, ghw21, (Or.inl ⟨c23, ⟨z25, A26, ghw27, (Or.inr ⟨c29, hq⟩)⟩⟩)⟩⟩)⟩⟩)⟩) hI (fk.trans (fk.rf) hf28 rfl rfl) hP hS (lv_sub hl [0, 1, 2, 3] rfl)
          · have c23 : ¬ z19 = 0 := mt (i_eq0 (rb hw21 (by decide) (by decide))).mpr c23
            refine lv_bipush (v := iI (-15)) hx hb (dk_at dkX5_readProduct_1 1 rfl) (by decide +kernel) ?_
            refine lv_istore_n (lv' := [(3, .int (iI (-15))), (2, .int (iI z8)), (0, .ref (q 3)), (1, .ref (q ta))]) hx hb (dk_at dkX5_readProduct_1 2 rfl) rfl hl (by decide) rfl (fun ls hl => ?_)
            refine lv_goto (tgt := 63) hx hb (dk_at dkX5_readProduct_1 3 rfl) (by decide) ?_
            exact J63_24 (-15) _ _ _ _ (by omega) (fun zq uq ⟨mm1, hq⟩ => hk1 _ _ ⟨mm1 + 1, (u_d_X5_readProduct_1 ⟨gI16.out, ⟨f13, (Or.inr ⟨c18, ⟨z19, A20, ghw21, (Or.inr ⟨c23, hq⟩)⟩⟩)⟩⟩)⟩) hI (fk.rf) hP hS (lv_sub hl [0, 1, 2, 3] rfl)
    exact L12_11 _ 0 _ _ _ _ (by omega) (by omega) (fun zq uq ⟨mm1, hq⟩ => (u_r_X5_readProduct ⟨z2, A3, ghw4, (Or.inl ⟨c7, ⟨mm1, hq⟩⟩)⟩)) rfl hI (fk.rf) hP hS (lv_sub hl [0, 1, 2] rfl)
  · have c7 : z2 = 0 := (i_eq0 (rb rz2 (by decide) (by decide))).mp c7
    clear hw4
    refine lv_iconst (v := iI 0) hx hb (dk_at dkX5_readProduct_0 4 rfl) (by decide +kernel) ?_
    exact RET 0 _ _ _ _ _ ⟨(u_r_X5_readProduct ⟨z2, A3, ghw4, (Or.inr ⟨c7, ⟨rfl, rfl⟩⟩)⟩), hI, fk.trans (fk.rf) hf5 rfl rfl, by omega⟩ hP hS (dk_at dkX5_readProduct_0 5 rfl)

abbrev tr_d_X5_readSum_2 (K1 : Int → St → Prop) (SS : St → Int → St → Prop) (b : Nat) (ta : Nat) (z8 : Int) (z : Int) (u : St) (z32 : Int) (A34 : St) : Prop := ((IK A34) ∧ ((-13 ≤ z32 ∧ z32 ≤ -12) ∧ (∃ z39 : Int, ∃ A40 : St, q_X5_readProduct SS b ta A34 z39 A40 ∧ (((z39 = 0) ∧ (z = 0 ∧ u = A40)) ∨ ((¬ z39 = 0) ∧ (∃ z45 : Int, ∃ A46 : St, q_X8_add ta z32 A40 z45 A46 ∧ (((¬ z45 = 0) ∧ (K1 (z8 + 1) A46)) ∨ ((z45 = 0) ∧ (z = 0 ∧ u = A46)))))))))
def d_X5_readSum_2 (K1 : Int → St → Prop) (SS : St → Int → St → Prop) (b : Nat) (ta : Nat) (z8 : Int) (z : Int) (u : St) (z32 : Int) (A34 : St) : Prop := tr_d_X5_readSum_2 K1 SS b ta z8 z u z32 A34
theorem u_d_X5_readSum_2 {K1 : Int → St → Prop} {SS : St → Int → St → Prop} {b : Nat} {ta : Nat} {z8 : Int} {z : Int} {u : St} {z32 : Int} {A34 : St} (h : tr_d_X5_readSum_2 K1 SS b ta z8 z u z32 A34) : d_X5_readSum_2 K1 SS b ta z8 z u z32 A34 := h
abbrev tr_d_X5_readSum_1 (SS : St → Int → St → Prop) (b : Nat) (ta : Nat) (z : Int) (u : St) (K1 : Int → St → Prop) (z8 : Int) (A10 : St) : Prop := ((IK A10) ∧ ((0 ≤ z8 ∧ z8 ≤ 2147483647) ∧ (((1600 ≤ z8) ∧ (z = 0 ∧ u = A10)) ∨ ((¬ 1600 ≤ z8) ∧ (∃ z19 : Int, ∃ A20 : St, q_X5_passesSign 45 A10 z19 A20 ∧ (((z19 = 0) ∧ (∃ z25 : Int, ∃ A26 : St, q_X5_passesSign 43 A20 z25 A26 ∧ (((¬ z25 = 0) ∧ (d_X5_readSum_2 K1 SS b ta z8 z u (-12) A26)) ∨ ((z25 = 0) ∧ (z = 1 ∧ u = A26))))) ∨ ((¬ z19 = 0) ∧ (d_X5_readSum_2 K1 SS b ta z8 z u (-13) A20))))))))
def d_X5_readSum_1 (SS : St → Int → St → Prop) (b : Nat) (ta : Nat) (z : Int) (u : St) : Nat → Int → St → Prop
  | 0, _, _ => False
  | nn9 + 1, z8, A10 => tr_d_X5_readSum_1 SS b ta z u (fun z8 A10 => d_X5_readSum_1 SS b ta z u nn9 z8 A10) z8 A10
theorem u_d_X5_readSum_1 {SS : St → Int → St → Prop} {b : Nat} {ta : Nat} {z : Int} {u : St} {nn9 : Nat} {z8 : Int} {A10 : St} (h : tr_d_X5_readSum_1 SS b ta z u (fun z8 A10 => d_X5_readSum_1 SS b ta z u nn9 z8 A10) z8 A10) : d_X5_readSum_1 SS b ta z u (nn9 + 1) z8 A10 := h
abbrev tr_r_X5_readSum (SS : St → Int → St → Prop) (b : Nat) (ta : Nat) (A : St) (z : Int) (u : St) : Prop := (∃ z2 : Int, ∃ A3 : St, q_X5_readProduct SS b ta A z2 A3 ∧ (((¬ z2 = 0) ∧ (∃ nn9 : Nat, d_X5_readSum_1 SS b ta z u nn9 0 A3)) ∨ ((z2 = 0) ∧ (z = 0 ∧ u = A3))))
def r_X5_readSum (SS : St → Int → St → Prop) (b : Nat) (ta : Nat) (A : St) (z : Int) (u : St) : Prop := tr_r_X5_readSum SS b ta A z u
theorem u_r_X5_readSum {SS : St → Int → St → Prop} {b : Nat} {ta : Nat} {A : St} {z : Int} {u : St} (h : tr_r_X5_readSum SS b ta A z u) : r_X5_readSum SS b ta A z u := h
set_option maxHeartbeats 4000000 in
set_option maxRecDepth 100000 in
theorem kc_X5_readSum (l : Launch) (dC : Nat → ClassId) (dI : Nat → Nat → Nat) (cB cI cJ cZ cQ : ClassId) (aL aS : Nat) (q : Nat → Nat) (SS : St → Int → St → Prop) (b : Nat) (A : St) (ta : Nat) (hI : IK A) (hta : isE ta) (hp0 : A 3 4 = (b : Int)) (hp1 : b ≤ 8) (IHs : ∀ A : St, IK A → A 3 4 = (b : Int) + 1 → b + 1 ≤ 8 → KMi l yX5_readSum ws_kc_X5_readSum (rqm 4 (b + 1)) aL aS (dC, dI) (tyA cB cI cJ cZ cQ) (WK cB cI cJ cZ cQ q) A [.ref (q 3), .ref (q ta)] (fun z u => SS A z u ∧ IK u ∧ fk [71, 102] [(3, 2), (3, 3), (3, 4), (5, 1), (5, 2), (5, 3), (5, 4), (5, 5), (5, 6), (70, 2), (101, 2)] A u ∧ ((0 ≤ z ∧ z ≤ 1) ∧ (z = 1 → u 3 4 = A 3 4)))) : KMi l yX5_readSum ws_kc_X5_readSum (rqm 4 b) aL aS (dC, dI) (tyA cB cI cJ cZ cQ) (WK cB cI cJ cZ cQ q) A [.ref (q 3), .ref (q ta)] (fun z u => r_X5_readSum SS b ta A z u ∧ IK u ∧ fk [71, 102] [(3, 2), (3, 3), (3, 4), (5, 1), (5, 2), (5, 3), (5, 4), (5, 5), (5, 6), (70, 2), (101, 2)] A u ∧ ((0 ≤ z ∧ z ≤ 1) ∧ (z = 1 → u 3 4 = A 3 4))) := by
  refine k_metz (cc := cX5_readSum) (maxL := 4) WK_adr (plainFor_of_name (by decide +kernel)) rfl (Nat.le_of_ble_eq_true rfl) (fun z u h => h.2.2.2.1) (fun p e s m below meth c Q AS ls hx hb hml hown hts hK hDD hA0 hE RET H locs hP hS hl => ?_)
  have hown : s.vm.findClass RX5 = some m.cls := hown
  have hl : lv_has ls 4 [(0, .ref (q 3)), (1, .ref (q ta))] := hl
  refine lv_aload_n hx hb (dk_at dkX5_readSum_0 0 rfl) rfl (lv_at hl 0 rfl) ?_
  refine lv_aload_n hx hb (dk_at dkX5_readSum_0 1 rfl) rfl (lv_at hl 1 rfl) ?_
  have r1 : (0 : Int) ≤ (A 3 4) ∧ (A 3 4) ≤ 8 := irRD_4 hI
  refine k_calli (As := [.ref (q ta)]) (rest := []) ⟨hx, hb, hml, hown, hts⟩ hE (kc_X5_readProduct l dC dI cB cI cJ cZ cQ aL aS q SS b _ ta hI hta (by omega) (by omega) IHs) (cwV 1 hts (goodVk wkq_8_5 wkq_8_6 wkq_8_7 wkq_5_28 wkq_8_13) rfl rfl rfl (by decide +kernel) ⟨by show (10 * (9 - b) + 8) + 1 ≤ 10 * (9 - b) + 9; omega, by show 8 + (4 + 11) + (400 * (9 - b) + 120) ≤ 400 * (9 - b) + 160; omega⟩) hK hDD hA0 hP hS 3 5 (wkRD) rfl rfl hl.1 (Nat.le_of_ble_eq_true rfl) (dk_at dkX5_readSum_0 2 rfl) (fun z2 A3 H locs hw4 hP hS => ?_)
  have ghw4 : q_X5_readProduct SS b ta A z2 A3 := hw4
  obtain ⟨_, hI, hf5, hw4⟩ := hw4
  have r6 : (0 : Int) ≤ (A3 3 4) ∧ (A3 3 4) ≤ 8 := irRD_4 hI
  have rz2 : 0 ≤ z2 ∧ z2 ≤ 1 := hw4.1
  have hw4 := hw4.2
  refine lv_if_ne (tgt := 10) hx hb (dk_at dkX5_readSum_0 3 rfl) (by decide) (fun c7 => ?_) (fun c7 => ?_)
  · have c7 : ¬ z2 = 0 := mt (i_eq0 (rb rz2 (by decide) (by decide))).mpr c7
    have hw4b := hw4 (by omega)
    clear hw4
    refine lv_iconst (v := iI 0) hx hb (dk_at dkX5_readSum_0 6 rfl) (by decide +kernel) ?_
    refine lv_istore_n (lv' := [(2, .int (iI 0)), (0, .ref (q 3)), (1, .ref (q ta))]) hx hb (dk_at dkX5_readSum_0 7 rfl) rfl hl (by decide) rfl (fun ls hl => ?_)
    have L12_11 : ∀ (n15 : Nat) (z8 : Int) (A10 : St) (H : Heap) (locs : List Loc) (ls : Array Slot), (0 ≤ z8 ∧ z8 ≤ 2147483647) → (A10 3 4 = A 3 4) → (∀ (z : Int) (u : St), (∃ mm1 : Nat, (d_X5_readSum_1 SS b ta z u mm1 z8 A10)) → r_X5_readSum SS b ta A z u) → ((1601 - z8).toNat = n15) → IK A10 → fk [71, 102] [(3, 2), (3, 3), (3, 4), (5, 1), (5, 2), (5, 3), (5, 4), (5, 5), (5, 6), (70, 2), (101, 2)] A3 A10 → va_P (dC, dI) vwCl (WK cB cI cJ cZ cQ q A10) H → va_S AS s.heap H locs → lv_has ls 4 [(2, .int (iI z8)), (0, .ref (q 3)), (1, .ref (q ta))] → W p l e (headSpec ws_kc_X5_readSum (rqm 4 b)).room s m [.ref (q 3), .ref (q ta)].toArray below meth c H locs 0 0 Q (F0 m 12 ls []) := by
      intro n15
      induction n15 using Nat.strongRecOn with
      | ind n15 ih12 =>
        intro z8 A10 H locs ls f13 f14 hk1 hn15 hI hj9 hP hS hl
        have gI16 : Hd (IK A10) := Hd.mk hI
        have r17 : (0 : Int) ≤ (A10 3 4) ∧ (A10 3 4) ≤ 8 := irRD_4 hI
        refine lv_iload_n hx hb (dk_at dkX5_readSum_0 8 rfl) rfl (lv_at hl 0 rfl) ?_
        refine lv_sipush (v := iI 1600) hx hb (dk_at dkX5_readSum_0 9 rfl) (by decide +kernel) ?_
        refine lv_icmp_ge (tgt := 72) hx hb (dk_at dkX5_readSum_0 10 rfl) (by decide) (fun c18 => ?_) (fun c18 => ?_)
        · have c18 : 1600 ≤ z8 := (i_le ⟨by decide, by decide⟩ (rb f13 (by decide) (by decide))).mp c18
          refine lv_iconst (v := iI 0) hx hb (dk_at dkX5_readSum_2 6 rfl) (by decide +kernel) ?_
          exact RET 0 _ _ _ _ _ ⟨hk1 _ _ ⟨0 + 1, (u_d_X5_readSum_1 ⟨gI16.out, ⟨f13, (Or.inl ⟨c18, ⟨rfl, rfl⟩⟩)⟩⟩)⟩, hI, fk.trans (fk.trans (fk.rf) hf5 rfl rfl) hj9 rfl rfl, by omega⟩ hP hS (dk_at dkX5_readSum_2 7 rfl)
        · have c18 : ¬ 1600 ≤ z8 := mt (i_le ⟨by decide, by decide⟩ (rb f13 (by decide) (by decide))).mpr c18
          refine lv_bipush (v := iI (-12)) hx hb (dk_at dkX5_readSum_0 11 rfl) (by decide +kernel) ?_
          refine lv_istore_n (lv' := [(3, .int (iI (-12))), (2, .int (iI z8)), (0, .ref (q 3)), (1, .ref (q ta))]) hx hb (dk_at dkX5_readSum_0 12 rfl) rfl hl (by decide) rfl (fun ls hl => ?_)
          refine lv_aload_n hx hb (dk_at dkX5_readSum_0 13 rfl) rfl (lv_at hl 2 rfl) ?_
          refine lv_bipush (v := iI 45) hx hb (dk_at dkX5_readSum_0 14 rfl) (by decide +kernel) ?_
          refine k_calli (As := [.int (iI 45)]) (rest := []) ⟨hx, hb, hml, hown, hts⟩ hE (kc_X5_passesSign l dC dI cB cI cJ cZ cQ aL aS q _ 45 hI ⟨by decide, by decide⟩) (cwV 1 hts (goodVk wkq_7_42 wkq_7_43 wkq_7_44 wkq_5_28 wkq_7_45) rfl rfl rfl (by decide +kernel) ⟨by show (2) + 1 ≤ 10 * (9 - b) + 9; omega, by show 8 + (2 + 11) + (45) ≤ 400 * (9 - b) + 160; omega⟩) hK hDD hA0 hP hS 3 5 (wkRD) rfl rfl hl.1 (Nat.le_of_ble_eq_true rfl) (dk_at dkX5_readSum_0 15 rfl) (fun z19 A20 H locs hw21 hP hS => ?_)
          have ghw21 : q_X5_passesSign 45 A10 z19 A20 := hw21
          obtain ⟨_, hI, hf22, hw21⟩ := hw21
          have J48_24 : ∀ (z32 : Int) (A34 : St) (H : Heap) (locs : List Loc) (ls : Array Slot), (-13 ≤ z32 ∧ z32 ≤ -12) → (∀ (z : Int) (u : St), (∃ mm1 : Nat, (d_X5_readSum_2 (fun z8' A10' => d_X5_readSum_1 SS b ta z u mm1 z8' A10') SS b ta z8 z u z32 A34)) → r_X5_readSum SS b ta A z u) → IK A34 → fk [] [(5, 1), (5, 2), (5, 3), (5, 4), (5, 5), (5, 6)] A20 A34 → va_P (dC, dI) vwCl (WK cB cI cJ cZ cQ q A34) H → va_S AS s.heap H locs → lv_has ls 4 [(3, .int (iI z32)), (2, .int (iI z8)), (0, .ref (q 3)), (1, .ref (q ta))] → W p l e (headSpec ws_kc_X5_readSum (rqm 4 b)).room s m [.ref (q 3), .ref (q ta)].toArray below meth c H locs 0 0 Q (F0 m 48 ls []) := by
            intro z32 A34 H locs ls f35 hk2 hI hj33 hP hS hl
            have gI36 : Hd (IK A34) := Hd.mk hI
            refine lv_aload_n hx hb (dk_at dkX5_readSum_1 10 rfl) rfl (lv_at hl 2 rfl) ?_
            refine lv_aload_n hx hb (dk_at dkX5_readSum_1 11 rfl) rfl (lv_at hl 3 rfl) ?_
            have e38 : A20 3 4 = (A10 3 4) := (hf22 3 4 rfl rfl)
            have e37 : A34 3 4 = (A10 3 4) := (hj33 3 4 rfl rfl).trans e38
            refine k_calli (As := [.ref (q ta)]) (rest := []) ⟨hx, hb, hml, hown, hts⟩ hE (kc_X5_readProduct l dC dI cB cI cJ cZ cQ aL aS q SS b _ ta hI hta (by omega) (by omega) IHs) (cwV 1 hts (goodVk wkq_8_5 wkq_8_6 wkq_8_7 wkq_5_28 wkq_8_13) rfl rfl rfl (by decide +kernel) ⟨by show (10 * (9 - b) + 8) + 1 ≤ 10 * (9 - b) + 9; omega, by show 8 + (4 + 11) + (400 * (9 - b) + 120) ≤ 400 * (9 - b) + 160; omega⟩) hK hDD hA0 hP hS 3 5 (wkRD) rfl rfl hl.1 (Nat.le_of_ble_eq_true rfl) (dk_at dkX5_readSum_1 12 rfl) (fun z39 A40 H locs hw41 hP hS => ?_)
            have ghw41 : q_X5_readProduct SS b ta A34 z39 A40 := hw41
            obtain ⟨_, hI, hf42, hw41⟩ := hw41
            have r43 : (0 : Int) ≤ (A40 3 4) ∧ (A40 3 4) ≤ 8 := irRD_4 hI
            have rz39 : 0 ≤ z39 ∧ z39 ≤ 1 := hw41.1
            have hw41 := hw41.2
            refine lv_if_eq (tgt := 64) hx hb (dk_at dkX5_readSum_1 13 rfl) (by decide) (fun c44 => ?_) (fun c44 => ?_)
            · have c44 : z39 = 0 := (i_eq0 (rb rz39 (by decide) (by decide))).mp c44
              clear hw41
              refine lv_iconst (v := iI 0) hx hb (dk_at dkX5_readSum_2 2 rfl) (by decide +kernel) ?_
              exact RET 0 _ _ _ _ _ ⟨hk2 _ _ ⟨0, (u_d_X5_readSum_2 ⟨gI36.out, ⟨f35, ⟨z39, A40, ghw41, (Or.inl ⟨c44, ⟨rfl, rfl⟩⟩)⟩⟩⟩)⟩, hI, fk.trans (fk.trans (fk.trans (fk.trans (fk.trans (fk.rf) hf5 rfl rfl) hj9 rfl rfl) hf22 rfl rfl) hj33 rfl rfl) hf42 rfl rfl, by omega⟩ hP hS (dk_at dkX5_readSum_2 3 rfl)
            · have c44 : ¬ z39 = 0 := mt (i_eq0 (rb rz39 (by decide) (by decide))).mpr c44
              have hw41b := hw41 (by omega)
              clear hw41
              refine lv_aload_n hx hb (dk_at dkX5_readSum_1 14 rfl) rfl (lv_at hl 3 rfl) ?_
              refine lv_iload_n hx hb (dk_at dkX5_readSum_1 15 rfl) rfl (lv_at hl 0 rfl) ?_
              refine k_calli (As := [.int (iI z32)]) (rest := []) ⟨hx, hb, hml, hown, hts⟩ hE (kc_X8_add l dC dI cB cI cJ cZ cQ aL aS q _ ta z32 hI hta (rb f35 (by decide) (by decide))) (cwV 1 hts (goodVk wkq_7_33 wkq_7_34 wkq_7_35 wkq_1_35 wkq_7_36) rfl rfl rfl (by decide +kernel) ⟨by show (0) + 1 ≤ 10 * (9 - b) + 9; omega, by show 8 + (2 + 11) + (0) ≤ 400 * (9 - b) + 160; omega⟩) hK hDD hA0 hP hS ta 8 (wkE hta) rfl rfl hl.1 (Nat.le_of_ble_eq_true rfl) (dk_at dkX5_readSum_2 0 rfl) (fun z45 A46 H locs hw47 hP hS => ?_)
              have ghw47 : q_X8_add ta z32 A40 z45 A46 := hw47
              obtain ⟨_, hI, hf48, hw47⟩ := hw47
              refine lv_if_ne (tgt := 66) hx hb (dk_at dkX5_readSum_2 1 rfl) (by decide) (fun c49 => ?_) (fun c49 => ?_)
              · have c49 : ¬ z45 = 0 := mt (i_eq0 (rb hw47 (by decide) (by decide))).mpr c49
                refine lv_iinc (v := iI (z8 + 1)) (lv' := [(2, .int (iI (z8 + 1))), (3, .int (iI z32)), (0, .ref (q 3)), (1, .ref (q ta))]) hx hb (dk_at dkX5_readSum_2 4 rfl) hl (k := 1) rfl (i_inc (by omega)) (by decide) rfl (fun ls hl => ?_)
                refine lv_goto (tgt := 12) hx hb (dk_at dkX5_readSum_2 5 rfl) (by decide) ?_
                have e50 : A46 3 4 = (A40 3 4) := (hf48 3 4 rfl rfl)
                exact ih12 _ (by omega) (z8 + 1) _ _ _ _ (by omega) (by omega) (fun zq uq ⟨mm1, hq⟩ => hk2 _ _ ⟨mm1, (u_d_X5_readSum_2 ⟨gI36.out, ⟨f35, ⟨z39, A40, ghw41, (Or.inr ⟨c44, ⟨z45, A46, ghw47, (Or.inl ⟨c49, hq⟩)⟩⟩)⟩⟩⟩)⟩) rfl hI (fk.trans (fk.trans (fk.trans (fk.trans (fk.trans (fk.rf) hj9 rfl rfl) hf22 rfl rfl) hj33 rfl rfl) hf42 rfl rfl) hf48 rfl rfl) hP hS (lv_sub hl [0, 2, 3] rfl)
              · have c49 : z45 = 0 := (i_eq0 (rb hw47 (by decide) (by decide))).mp c49
                refine lv_iconst (v := iI 0) hx hb (dk_at dkX5_readSum_2 2 rfl) (by decide +kernel) ?_
                have e51 : A46 3 4 = (A40 3 4) := (hf48 3 4 rfl rfl)
                exact RET 0 _ _ _ _ _ ⟨hk2 _ _ ⟨0, (u_d_X5_readSum_2 ⟨gI36.out, ⟨f35, ⟨z39, A40, ghw41, (Or.inr ⟨c44, ⟨z45, A46, ghw47, (Or.inr ⟨c49, ⟨rfl, rfl⟩⟩)⟩⟩)⟩⟩⟩)⟩, hI, fk.trans (fk.trans (fk.trans (fk.trans (fk.trans (fk.trans (fk.rf) hf5 rfl rfl) hj9 rfl rfl) hf22 rfl rfl) hj33 rfl rfl) hf42 rfl rfl) hf48 rfl rfl, by omega⟩ hP hS (dk_at dkX5_readSum_2 3 rfl)
          refine lv_if_eq (tgt := 37) hx hb (dk_at dkX5_readSum_1 0 rfl) (by decide) (fun c23 => ?_) (fun c23 => ?_)
          · have c23 : z19 = 0 := (i_eq0 (rb hw21 (by decide) (by decide))).mp c23
            refine lv_aload_n hx hb (dk_at dkX5_readSum_1 4 rfl) rfl (lv_at hl 2 rfl) ?_
            refine lv_bipush (v := iI 43) hx hb (dk_at dkX5_readSum_1 5 rfl) (by decide +kernel) ?_
            refine k_calli (As := [.int (iI 43)]) (rest := []) ⟨hx, hb, hml, hown, hts⟩ hE (kc_X5_passesSign l dC dI cB cI cJ cZ cQ aL aS q _ 43 hI ⟨by decide, by decide⟩) (cwV 1 hts (goodVk wkq_7_42 wkq_7_43 wkq_7_44 wkq_5_28 wkq_7_45) rfl rfl rfl (by decide +kernel) ⟨by show (2) + 1 ≤ 10 * (9 - b) + 9; omega, by show 8 + (2 + 11) + (45) ≤ 400 * (9 - b) + 160; omega⟩) hK hDD hA0 hP hS 3 5 (wkRD) rfl rfl hl.1 (Nat.le_of_ble_eq_true rfl) (dk_at dkX5_readSum_1 6 rfl) (fun z25 A26 H locs hw27 hP hS => ?_)
            have ghw27 : q_X5_passesSign 43 A20 z25 A26 := hw27
            obtain ⟨_, hI, hf28, hw27⟩ := hw27
            refine lv_if_ne (tgt := 48) hx hb (dk_at dkX5_readSum_1 7 rfl) (by decide) (fun c29 => ?_) (fun c29 => ?_)
            · have c29 : ¬ z25 = 0 := mt (i_eq0 (rb hw27 (by decide) (by decide))).mpr c29
              exact J48_24 (-12) _ _ _ _ (by omega) (fun zq uq ⟨mm1, hq⟩ => hk1 _ _ ⟨mm1 + 1, (u_d_X5_readSum_1 ⟨gI16.out, ⟨f13, (Or.inr ⟨c18, ⟨z19, A20, ghw21, (Or.inl ⟨c23, ⟨z25, A26, ghw27, (Or.inl ⟨c29, hq⟩)⟩⟩)⟩⟩)⟩⟩)⟩) hI (fk.trans (fk.rf) hf28 rfl rfl) hP hS (lv_sub hl [0, 1, 2, 3] rfl)
            · have c29 : z25 = 0 := (i_eq0 (rb hw27 (by decide) (by decide))).mp c29
              refine lv_iconst (v := iI 1) hx hb (dk_at dkX5_readSum_1 8 rfl) (by decide +kernel) ?_
              have e31 : A20 3 4 = (A10 3 4) := (hf22 3 4 rfl rfl)
              have e30 : A26 3 4 = (A10 3 4) := (hf28 3 4 rfl rfl).trans e31
              exact RET 1 _ _ _ _ _ ⟨hk1 _ _ ⟨0 + 1, (u_d_X5_readSum_1 ⟨gI16.out, ⟨f13, (Or.inr ⟨c18, ⟨z19, A20, ghw21, (Or.inl ⟨c23, ⟨z25, A26, ghw27, (Or.inr ⟨c29, ⟨rfl, rfl⟩⟩)⟩⟩)⟩⟩)⟩⟩)⟩, hI, fk.trans (fk.trans (fk.trans (fk.trans (fk.rf) hf5 rfl rfl) hj9 rfl rfl) hf22 rfl rfl) hf28 rfl rfl, by omega⟩ hP hS (dk_at dkX5_readSum_1 9 rfl)
          · have c23 : ¬ z19 = 0 := mt (i_eq0 (rb hw21 (by decide) (by decide))).mpr c23
            refine lv_bipush (v := iI (-13)) hx hb (dk_at dkX5_readSum_1 1 rfl) (by decide +kernel) ?_
            refine lv_istore_n (lv' := [(3, .int (iI (-13))), (2, .int (iI z8)), (0, .ref (q 3)), (1, .ref (q ta))]) hx hb (dk_at dkX5_readSum_1 2 rfl) rfl hl (by decide) rfl (fun ls hl => ?_)
            refine lv_goto (tgt := 48) hx hb (dk_at dkX5_readSum_1 3 rfl) (by decide) ?_
            exact J48_24 (-13) _ _ _ _ (by omega) (fun zq uq ⟨mm1, hq⟩ => hk1 _ _ ⟨mm1 + 1, (u_d_X5_readSum_1 ⟨gI16.out, ⟨f13, (Or.inr ⟨c18, ⟨z19, A20, ghw21, (Or.inr ⟨c23, hq⟩)⟩⟩)⟩⟩)⟩) hI (fk.rf) hP hS (lv_sub hl [0, 1, 2, 3] rfl)
    exact L12_11 _ 0 _ _ _ _ (by omega) (by omega) (fun zq uq ⟨mm1, hq⟩ => (u_r_X5_readSum ⟨z2, A3, ghw4, (Or.inl ⟨c7, ⟨mm1, hq⟩⟩)⟩)) rfl hI (fk.rf) hP hS (lv_sub hl [0, 1, 2] rfl)
  · have c7 : z2 = 0 := (i_eq0 (rb rz2 (by decide) (by decide))).mp c7
    clear hw4
    refine lv_iconst (v := iI 0) hx hb (dk_at dkX5_readSum_0 4 rfl) (by decide +kernel) ?_
    exact RET 0 _ _ _ _ _ ⟨(u_r_X5_readSum ⟨z2, A3, ghw4, (Or.inr ⟨c7, ⟨rfl, rfl⟩⟩)⟩), hI, fk.trans (fk.rf) hf5 rfl rfl, by omega⟩ hP hS (dk_at dkX5_readSum_0 5 rfl)

def rq_sum (ta : Nat) : Nat → St → Int → St → Prop
  | 0 => r_X5_readSum (fun _ _ _ => False) (8 - 0) ta
  | n + 1 => r_X5_readSum (rq_sum ta n) (8 - (n + 1)) ta
theorem kq_sum (l : Launch) (dC : Nat → ClassId) (dI : Nat → Nat → Nat) (cB cI cJ cZ cQ : ClassId) (aL aS : Nat) (q : Nat → Nat) (ta : Nat) (hta : isE ta) : ∀ n b : Nat, 8 - b = n → b ≤ 8 → ∀ A : St, IK A → A 3 4 = (b : Int) → KMi l yX5_readSum ws_kc_X5_readSum (rqm 4 b) aL aS (dC, dI) (tyA cB cI cJ cZ cQ) (WK cB cI cJ cZ cQ q) A [.ref (q 3), .ref (q ta)] (fun z u => rq_sum ta n A z u ∧ IK u ∧ fk [71, 102] [(3, 2), (3, 3), (3, 4), (5, 1), (5, 2), (5, 3), (5, 4), (5, 5), (5, 6), (70, 2), (101, 2)] A u ∧ ((0 ≤ z ∧ z ≤ 1) ∧ (z = 1 → u 3 4 = A 3 4))) := by
  intro n
  induction n with
  | zero =>
    intro b hb hb8 A hI h
    obtain rfl : b = 8 - 0 := by omega
    exact kc_X5_readSum l dC dI cB cI cJ cZ cQ aL aS q (fun _ _ _ => False) (8 - 0) A ta hI hta h hb8 (fun A hI h h8 => absurd h8 (by omega))
  | succ n ih =>
    intro b hb hb8 A hI h
    obtain rfl : b = 8 - (n + 1) := by omega
    exact kc_X5_readSum l dC dI cB cI cJ cZ cQ aL aS q (rq_sum ta n) (8 - (n + 1)) A ta hI hta h hb8 (fun A hI h h8 => ih (8 - (n + 1) + 1) (by omega) h8 A hI (by omega))

abbrev tr_d_X5_readFact_9 (ta : Nat) (z2 : Int) (z : Int) (u : St) (z131 : Int) (A133 : St) : Prop := ((IK A133) ∧ ((0 ≤ z131 ∧ z131 ≤ 1) ∧ (((z131 = 0) ∧ (z = 0 ∧ u = A133)) ∨ ((¬ z131 = 0) ∧ (((z2 = 0) ∧ (z = 1 ∧ u = A133)) ∨ ((¬ z2 = 0) ∧ (∃ z141 : Int, ∃ A142 : St, q_X8_add ta (-6) A133 z141 A142 ∧ (((z141 = 0) ∧ (z = 0 ∧ u = A142)) ∨ ((¬ z141 = 0) ∧ (z = 1 ∧ u = A142))))))))))
def d_X5_readFact_9 (ta : Nat) (z2 : Int) (z : Int) (u : St) (z131 : Int) (A133 : St) : Prop := tr_d_X5_readFact_9 ta z2 z u z131 A133
theorem u_d_X5_readFact_9 {ta : Nat} {z2 : Int} {z : Int} {u : St} {z131 : Int} {A133 : St} (h : tr_d_X5_readFact_9 ta z2 z u z131 A133) : d_X5_readFact_9 ta z2 z u z131 A133 := h
abbrev tr_d_X5_readFact_6 (ta : Nat) (z2 : Int) (z : Int) (u : St) (z77 : Int) (A79 : St) : Prop := ((IK A79) ∧ ((0 ≤ z77 ∧ z77 ≤ 1) ∧ (d_X5_readFact_9 ta z2 z u z77 A79)))
def d_X5_readFact_6 (ta : Nat) (z2 : Int) (z : Int) (u : St) (z77 : Int) (A79 : St) : Prop := tr_d_X5_readFact_6 ta z2 z u z77 A79
theorem u_d_X5_readFact_6 {ta : Nat} {z2 : Int} {z : Int} {u : St} {z77 : Int} {A79 : St} (h : tr_d_X5_readFact_6 ta z2 z u z77 A79) : d_X5_readFact_6 ta z2 z u z77 A79 := h
abbrev tr_d_X5_readFact_5 (ta : Nat) (z2 : Int) (z : Int) (u : St) (A75 : St) : Prop := ((IK A75) ∧ (d_X5_readFact_6 ta z2 z u 0 A75))
def d_X5_readFact_5 (ta : Nat) (z2 : Int) (z : Int) (u : St) (A75 : St) : Prop := tr_d_X5_readFact_5 ta z2 z u A75
theorem u_d_X5_readFact_5 {ta : Nat} {z2 : Int} {z : Int} {u : St} {A75 : St} (h : tr_d_X5_readFact_5 ta z2 z u A75) : d_X5_readFact_5 ta z2 z u A75 := h
abbrev tr_d_X5_readFact_4 (b : Nat) (ta : Nat) (z2 : Int) (z : Int) (u : St) (z53 : Int) (A55 : St) : Prop := ((IK A55) ∧ ((-2147483648 ≤ z53 ∧ z53 ≤ 2147483647) ∧ (((z53 = (-1)) ∧ (d_X5_readFact_5 ta z2 z u A55)) ∨ ((¬ z53 = (-1)) ∧ (∃ z63 : Int, ∃ A64 : St, q_SS_sum (rq_sum ta (8 - b)) A55 z63 A64 ∧ (((z63 = 0) ∧ (d_X5_readFact_5 ta z2 z u A64)) ∨ ((¬ z63 = 0) ∧ (∃ z69 : Int, ∃ A70 : St, q_X8_add ta z53 A64 z69 A70 ∧ (((z69 = 0) ∧ (d_X5_readFact_5 ta z2 z u A70)) ∨ ((¬ z69 = 0) ∧ (d_X5_readFact_6 ta z2 z u 1 A70)))))))))))
def d_X5_readFact_4 (b : Nat) (ta : Nat) (z2 : Int) (z : Int) (u : St) (z53 : Int) (A55 : St) : Prop := tr_d_X5_readFact_4 b ta z2 z u z53 A55
theorem u_d_X5_readFact_4 {b : Nat} {ta : Nat} {z2 : Int} {z : Int} {u : St} {z53 : Int} {A55 : St} (h : tr_d_X5_readFact_4 b ta z2 z u z53 A55) : d_X5_readFact_4 b ta z2 z u z53 A55 := h
abbrev tr_d_X5_readFact_8 (ta : Nat) (z2 : Int) (z : Int) (u : St) (z120 : Int) (A122 : St) : Prop := ((IK A122) ∧ ((0 ≤ z120 ∧ z120 ≤ 1) ∧ (d_X5_readFact_9 ta z2 z u z120 A122)))
def d_X5_readFact_8 (ta : Nat) (z2 : Int) (z : Int) (u : St) (z120 : Int) (A122 : St) : Prop := tr_d_X5_readFact_8 ta z2 z u z120 A122
theorem u_d_X5_readFact_8 {ta : Nat} {z2 : Int} {z : Int} {u : St} {z120 : Int} {A122 : St} (h : tr_d_X5_readFact_8 ta z2 z u z120 A122) : d_X5_readFact_8 ta z2 z u z120 A122 := h
abbrev tr_d_X5_readFact_7 (ta : Nat) (z2 : Int) (z : Int) (u : St) (A118 : St) : Prop := ((IK A118) ∧ (d_X5_readFact_8 ta z2 z u 0 A118))
def d_X5_readFact_7 (ta : Nat) (z2 : Int) (z : Int) (u : St) (A118 : St) : Prop := tr_d_X5_readFact_7 ta z2 z u A118
theorem u_d_X5_readFact_7 {ta : Nat} {z2 : Int} {z : Int} {u : St} {A118 : St} (h : tr_d_X5_readFact_7 ta z2 z u A118) : d_X5_readFact_7 ta z2 z u A118 := h
abbrev tr_d_X5_readFact_3 (SS : St → Int → St → Prop) (b : Nat) (ta : Nat) (z2 : Int) (z : Int) (u : St) (A24 : St) : Prop := ((IK A24) ∧ (∃ z26 : Int, ∃ A27 : St, q_X5_passesWord 19 A24 z26 A27 ∧ (((z26 = 0) ∧ (∃ z32 : Int, ∃ A33 : St, q_X5_passesSign 91 A27 z32 A33 ∧ (((z32 = 0) ∧ (∃ z42 : Int, ∃ A43 : St, q_SS_sum (rq_sum ta (8 - b)) A33 z42 A43 ∧ (((z42 = 0) ∧ (d_X5_readFact_4 b ta z2 z u (-1) A43)) ∨ ((¬ z42 = 0) ∧ (∃ z49 : Int, ∃ A50 : St, q_X5_comparisonSign A43 z49 A50 ∧ (d_X5_readFact_4 b ta z2 z u z49 A50)))))) ∨ ((¬ z32 = 0) ∧ (∃ z91 : Int, ∃ A92 : St, q_X5_enter A33 z91 A92 ∧ (((z91 = 0) ∧ (d_X5_readFact_7 ta z2 z u A92)) ∨ ((¬ z91 = 0) ∧ (∃ z99 : Int, ∃ A100 : St, q_SS_test SS A92 z99 A100 ∧ (((z99 = 0) ∧ (d_X5_readFact_7 ta z2 z u A100)) ∨ ((¬ z99 = 0) ∧ (∃ z105 : Int, ∃ A106 : St, q_X5_sign 93 A100 z105 A106 ∧ (((z105 = 0) ∧ (d_X5_readFact_7 ta z2 z u A106)) ∨ ((¬ z105 = 0) ∧ (∃ z111 : Int, ∃ A112 : St, q_X5_leave A106 z111 A112 ∧ (d_X5_readFact_8 ta z2 z u 1 A112))))))))))))))) ∨ ((¬ z26 = 0) ∧ (∃ z127 : Int, ∃ A128 : St, q_X8_add ta (-5) A27 z127 A128 ∧ (d_X5_readFact_9 ta z2 z u z127 A128))))))
def d_X5_readFact_3 (SS : St → Int → St → Prop) (b : Nat) (ta : Nat) (z2 : Int) (z : Int) (u : St) (A24 : St) : Prop := tr_d_X5_readFact_3 SS b ta z2 z u A24
theorem u_d_X5_readFact_3 {SS : St → Int → St → Prop} {b : Nat} {ta : Nat} {z2 : Int} {z : Int} {u : St} {A24 : St} (h : tr_d_X5_readFact_3 SS b ta z2 z u A24) : d_X5_readFact_3 SS b ta z2 z u A24 := h
abbrev tr_d_X5_readFact_2 (K1 : Int → Int → St → Prop) (z1 : Int) (A14 : St) (z : Int) (u : St) (z20 : Int) : Prop := ((0 ≤ z20 ∧ z20 ≤ 1) ∧ (K1 (z1 + 1) z20 A14))
def d_X5_readFact_2 (K1 : Int → Int → St → Prop) (z1 : Int) (A14 : St) (z : Int) (u : St) (z20 : Int) : Prop := tr_d_X5_readFact_2 K1 z1 A14 z u z20
theorem u_d_X5_readFact_2 {K1 : Int → Int → St → Prop} {z1 : Int} {A14 : St} {z : Int} {u : St} {z20 : Int} (h : tr_d_X5_readFact_2 K1 z1 A14 z u z20) : d_X5_readFact_2 K1 z1 A14 z u z20 := h
abbrev tr_d_X5_readFact_1 (SS : St → Int → St → Prop) (b : Nat) (ta : Nat) (z : Int) (u : St) (K1 : Int → Int → St → Prop) (z1 : Int) (z2 : Int) (A4 : St) : Prop := ((IK A4) ∧ ((0 ≤ z1 ∧ z1 ≤ 2147483647) ∧ ((0 ≤ z2 ∧ z2 ≤ 1) ∧ (((1600 ≤ z1) ∧ (d_X5_readFact_3 SS b ta z2 z u A4)) ∨ ((¬ 1600 ≤ z1) ∧ (∃ z13 : Int, ∃ A14 : St, q_X5_passesWord 18 A4 z13 A14 ∧ (((z13 = 0) ∧ (d_X5_readFact_3 SS b ta z2 z u A14)) ∨ ((¬ z13 = 0) ∧ (((¬ z2 = 0) ∧ (d_X5_readFact_2 K1 z1 A14 z u 0)) ∨ ((z2 = 0) ∧ (d_X5_readFact_2 K1 z1 A14 z u 1)))))))))))
def d_X5_readFact_1 (SS : St → Int → St → Prop) (b : Nat) (ta : Nat) (z : Int) (u : St) : Nat → Int → Int → St → Prop
  | 0, _, _, _ => False
  | nn9 + 1, z1, z2, A4 => tr_d_X5_readFact_1 SS b ta z u (fun z1 z2 A4 => d_X5_readFact_1 SS b ta z u nn9 z1 z2 A4) z1 z2 A4
theorem u_d_X5_readFact_1 {SS : St → Int → St → Prop} {b : Nat} {ta : Nat} {z : Int} {u : St} {nn9 : Nat} {z1 : Int} {z2 : Int} {A4 : St} (h : tr_d_X5_readFact_1 SS b ta z u (fun z1 z2 A4 => d_X5_readFact_1 SS b ta z u nn9 z1 z2 A4) z1 z2 A4) : d_X5_readFact_1 SS b ta z u (nn9 + 1) z1 z2 A4 := h
abbrev tr_r_X5_readFact (SS : St → Int → St → Prop) (b : Nat) (ta : Nat) (A : St) (z : Int) (u : St) : Prop := (∃ nn9 : Nat, d_X5_readFact_1 SS b ta z u nn9 0 0 A)
def r_X5_readFact (SS : St → Int → St → Prop) (b : Nat) (ta : Nat) (A : St) (z : Int) (u : St) : Prop := tr_r_X5_readFact SS b ta A z u
theorem u_r_X5_readFact {SS : St → Int → St → Prop} {b : Nat} {ta : Nat} {A : St} {z : Int} {u : St} (h : tr_r_X5_readFact SS b ta A z u) : r_X5_readFact SS b ta A z u := h
def q_X5_readFact (SS : St → Int → St → Prop) (b : Nat) (ta : Nat) (A : St) (z : Int) (u : St) : Prop := r_X5_readFact SS b ta A z u ∧ IK u ∧ fk [71, 102] [(3, 2), (3, 3), (3, 4), (5, 1), (5, 2), (5, 3), (5, 4), (5, 5), (5, 6), (70, 2), (101, 2)] A u ∧ ((0 ≤ z ∧ z ≤ 1) ∧ (z = 1 → u 3 4 = A 3 4))
set_option maxHeartbeats 4000000 in
set_option maxRecDepth 100000 in
theorem kc_X5_readFact (l : Launch) (dC : Nat → ClassId) (dI : Nat → Nat → Nat) (cB cI cJ cZ cQ : ClassId) (aL aS : Nat) (q : Nat → Nat) (SS : St → Int → St → Prop) (b : Nat) (A : St) (ta : Nat) (hI : IK A) (hta : isE ta) (hp0 : A 3 4 = (b : Int)) (hp1 : b ≤ 8) (IHt : ∀ A : St, IK A → A 3 4 = (b : Int) + 1 → b + 1 ≤ 8 → KMi l yX5_readTest ws_kc_X5_readTest (rqm 7 (b + 1)) aL aS (dC, dI) (tyA cB cI cJ cZ cQ) (WK cB cI cJ cZ cQ q) A [.ref (q 3), .ref (q ta)] (fun z u => SS A z u ∧ IK u ∧ fk [71, 102] [(3, 2), (3, 3), (3, 4), (5, 1), (5, 2), (5, 3), (5, 4), (5, 5), (5, 6), (70, 2), (101, 2)] A u ∧ ((0 ≤ z ∧ z ≤ 1) ∧ (z = 1 → u 3 4 = A 3 4)))) : KMi l yX5_readFact ws_kc_X5_readFact (rqm 5 b) aL aS (dC, dI) (tyA cB cI cJ cZ cQ) (WK cB cI cJ cZ cQ q) A [.ref (q 3), .ref (q ta)] (fun z u => r_X5_readFact SS b ta A z u ∧ IK u ∧ fk [71, 102] [(3, 2), (3, 3), (3, 4), (5, 1), (5, 2), (5, 3), (5, 4), (5, 5), (5, 6), (70, 2), (101, 2)] A u ∧ ((0 ≤ z ∧ z ≤ 1) ∧ (z = 1 → u 3 4 = A 3 4))) := by
  refine k_metz (cc := cX5_readFact) (maxL := 5) WK_adr (plainFor_of_name (by decide +kernel)) rfl (Nat.le_of_ble_eq_true rfl) (fun z u h => h.2.2.2.1) (fun p e s m below meth c Q AS ls hx hb hml hown hts hK hDD hA0 hE RET H locs hP hS hl => ?_)
  have hown : s.vm.findClass RX5 = some m.cls := hown
  have hl : lv_has ls 5 [(0, .ref (q 3)), (1, .ref (q ta))] := hl
  refine lv_iconst (v := iI 0) hx hb (dk_at dkX5_readFact_0 0 rfl) (by decide +kernel) ?_
  refine lv_istore_n (lv' := [(2, .int (iI 0)), (0, .ref (q 3)), (1, .ref (q ta))]) hx hb (dk_at dkX5_readFact_0 1 rfl) rfl hl (by decide) rfl (fun ls hl => ?_)
  refine lv_iconst (v := iI 0) hx hb (dk_at dkX5_readFact_0 2 rfl) (by decide +kernel) ?_
  refine lv_istore_n (lv' := [(3, .int (iI 0)), (2, .int (iI 0)), (0, .ref (q 3)), (1, .ref (q ta))]) hx hb (dk_at dkX5_readFact_0 3 rfl) rfl hl (by decide) rfl (fun ls hl => ?_)
  have L4_5 : ∀ (n9 : Nat) (z1 z2 : Int) (A4 : St) (H : Heap) (locs : List Loc) (ls : Array Slot), (0 ≤ z1 ∧ z1 ≤ 2147483647) → (0 ≤ z2 ∧ z2 ≤ 1) → (∀ (z : Int) (u : St), (∃ mm1 : Nat, (d_X5_readFact_1 SS b ta z u mm1 z1 z2 A4)) → r_X5_readFact SS b ta A z u) → ((1601 - z1).toNat = n9) → IK A4 → fk [] [(5, 1), (5, 2), (5, 3), (5, 4), (5, 5), (5, 6)] A A4 → va_P (dC, dI) vwCl (WK cB cI cJ cZ cQ q A4) H → va_S AS s.heap H locs → lv_has ls 5 [(3, .int (iI z1)), (2, .int (iI z2)), (0, .ref (q 3)), (1, .ref (q ta))] → W p l e (headSpec ws_kc_X5_readFact (rqm 5 b)).room s m [.ref (q 3), .ref (q ta)].toArray below meth c H locs 0 0 Q (F0 m 4 ls []) := by
    intro n9
    induction n9 using Nat.strongRecOn with
    | ind n9 ih6 =>
      intro z1 z2 A4 H locs ls f7 f8 hk1 hn9 hI hj3 hP hS hl
      have gI10 : Hd (IK A4) := Hd.mk hI
      refine lv_iload_n hx hb (dk_at dkX5_readFact_0 4 rfl) rfl (lv_at hl 0 rfl) ?_
      refine lv_sipush (v := iI 1600) hx hb (dk_at dkX5_readFact_0 5 rfl) (by decide +kernel) ?_
      have J36_12 : ∀ (A24 : St) (H : Heap) (locs : List Loc) (ls : Array Slot), (∀ (z : Int) (u : St), (∃ mm1 : Nat, (d_X5_readFact_3 SS b ta z2 z u A24)) → r_X5_readFact SS b ta A z u) → IK A24 → fk [] [(5, 1), (5, 2), (5, 3), (5, 4), (5, 5), (5, 6)] A4 A24 → va_P (dC, dI) vwCl (WK cB cI cJ cZ cQ q A24) H → va_S AS s.heap H locs → lv_has ls 5 [(3, .int (iI z1)), (2, .int (iI z2)), (0, .ref (q 3)), (1, .ref (q ta))] → W p l e (headSpec ws_kc_X5_readFact (rqm 5 b)).room s m [.ref (q 3), .ref (q ta)].toArray below meth c H locs 0 0 Q (F0 m 36 ls []) := by
        intro A24 H locs ls hk3 hI hj23 hP hS hl
        have gI25 : Hd (IK A24) := Hd.mk hI
        refine lv_aload_n hx hb (dk_at dkX5_readFact_1 3 rfl) rfl (lv_at hl 2 rfl) ?_
        refine lv_bipush (v := iI 19) hx hb (dk_at dkX5_readFact_1 4 rfl) (by decide +kernel) ?_
        refine k_calli (As := [.int (iI 19)]) (rest := []) ⟨hx, hb, hml, hown, hts⟩ hE (kc_X5_passesWord l dC dI cB cI cJ cZ cQ aL aS q _ 19 hI ⟨by decide, by decide⟩) (cwV 1 hts (goodVk wkq_6_27 wkq_6_28 wkq_6_29 wkq_5_28 wkq_6_30) rfl rfl rfl (by decide +kernel) ⟨by show (2) + 1 ≤ 10 * (9 - b) + 10; omega, by show 8 + (2 + 11) + (45) ≤ 400 * (9 - b) + 200; omega⟩) hK hDD hA0 hP hS 3 5 (wkRD) rfl rfl hl.1 (Nat.le_of_ble_eq_true rfl) (dk_at dkX5_readFact_1 5 rfl) (fun z26 A27 H locs hw28 hP hS => ?_)
        have ghw28 : q_X5_passesWord 19 A24 z26 A27 := hw28
        obtain ⟨_, hI, hf29, hw28⟩ := hw28
        have J153_31 : ∀ (z131 : Int) (A133 : St) (H : Heap) (locs : List Loc) (ls : Array Slot), (0 ≤ z131 ∧ z131 ≤ 1) → (z131 = 1 → A133 3 4 = A 3 4) → (∀ (z : Int) (u : St), (∃ mm1 : Nat, (d_X5_readFact_9 ta z2 z u z131 A133)) → r_X5_readFact SS b ta A z u) → IK A133 → fk [71, 102] [(3, 2), (3, 3), (3, 4), (5, 1), (5, 2), (5, 3), (5, 4), (5, 5), (5, 6), (70, 2), (101, 2)] A27 A133 → va_P (dC, dI) vwCl (WK cB cI cJ cZ cQ q A133) H → va_S AS s.heap H locs → lv_has ls 5 [(3, .int (iI z131)), (2, .int (iI z2)), (0, .ref (q 3)), (1, .ref (q ta))] → W p l e (headSpec ws_kc_X5_readFact (rqm 5 b)).room s m [.ref (q 3), .ref (q ta)].toArray below meth c H locs 0 0 Q (F0 m 153 ls []) := by
          intro z131 A133 H locs ls f134 f135 hk9 hI hj132 hP hS hl
          have gI136 : Hd (IK A133) := Hd.mk hI
          refine lv_iload_n hx hb (dk_at dkX5_readFact_4 13 rfl) rfl (lv_at hl 0 rfl) ?_
          refine lv_if_eq (tgt := 174) hx hb (dk_at dkX5_readFact_4 14 rfl) (by decide) (fun c137 => ?_) (fun c137 => ?_)
          · have c137 : z131 = 0 := (i_eq0 (rb f134 (by decide) (by decide))).mp c137
            refine lv_iconst (v := iI 0) hx hb (dk_at dkX5_readFact_5 7 rfl) (by decide +kernel) ?_
            have r138 : (0 : Int) ≤ (A133 3 4) ∧ (A133 3 4) ≤ 8 := irRD_4 hI
            exact RET 0 _ _ _ _ _ ⟨hk9 _ _ ⟨0, (u_d_X5_readFact_9 ⟨gI136.out, ⟨f134, (Or.inl ⟨c137, ⟨rfl, rfl⟩⟩)⟩⟩)⟩, hI, fk.trans (fk.trans (fk.trans (fk.trans (fk.rf) hj3 rfl rfl) hj23 rfl rfl) hf29 rfl rfl) hj132 rfl rfl, by omega⟩ hP hS (dk_at dkX5_readFact_5 8 rfl)
          · have c137 : ¬ z131 = 0 := mt (i_eq0 (rb f134 (by decide) (by decide))).mpr c137
            refine lv_iload_n hx hb (dk_at dkX5_readFact_4 15 rfl) rfl (lv_at hl 1 rfl) ?_
            refine lv_if_eq (tgt := 170) hx hb (dk_at dkX5_readFact_5 0 rfl) (by decide) (fun c139 => ?_) (fun c139 => ?_)
            · have c139 : z2 = 0 := (i_eq0 (rb f8 (by decide) (by decide))).mp c139
              refine lv_iconst (v := iI 1) hx hb (dk_at dkX5_readFact_5 5 rfl) (by decide +kernel) ?_
              refine lv_goto (tgt := 175) hx hb (dk_at dkX5_readFact_5 6 rfl) (by decide) ?_
              have r140 : (0 : Int) ≤ (A133 3 4) ∧ (A133 3 4) ≤ 8 := irRD_4 hI
              exact RET 1 _ _ _ _ _ ⟨hk9 _ _ ⟨0, (u_d_X5_readFact_9 ⟨gI136.out, ⟨f134, (Or.inr ⟨c137, (Or.inl ⟨c139, ⟨rfl, rfl⟩⟩)⟩)⟩⟩)⟩, hI, fk.trans (fk.trans (fk.trans (fk.trans (fk.rf) hj3 rfl rfl) hj23 rfl rfl) hf29 rfl rfl) hj132 rfl rfl, by omega⟩ hP hS (dk_at dkX5_readFact_5 8 rfl)
            · have c139 : ¬ z2 = 0 := mt (i_eq0 (rb f8 (by decide) (by decide))).mpr c139
              refine lv_aload_n hx hb (dk_at dkX5_readFact_5 1 rfl) rfl (lv_at hl 3 rfl) ?_
              refine lv_bipush (v := iI (-6)) hx hb (dk_at dkX5_readFact_5 2 rfl) (by decide +kernel) ?_
              refine k_calli (As := [.int (iI (-6))]) (rest := []) ⟨hx, hb, hml, hown, hts⟩ hE (kc_X8_add l dC dI cB cI cJ cZ cQ aL aS q _ ta (-6) hI hta ⟨by decide, by decide⟩) (cwV 1 hts (goodVk wkq_7_33 wkq_7_34 wkq_7_35 wkq_1_35 wkq_7_36) rfl rfl rfl (by decide +kernel) ⟨by show (0) + 1 ≤ 10 * (9 - b) + 10; omega, by show 8 + (2 + 11) + (0) ≤ 400 * (9 - b) + 200; omega⟩) hK hDD hA0 hP hS ta 8 (wkE hta) rfl rfl hl.1 (Nat.le_of_ble_eq_true rfl) (dk_at dkX5_readFact_5 3 rfl) (fun z141 A142 H locs hw143 hP hS => ?_)
              have ghw143 : q_X8_add ta (-6) A133 z141 A142 := hw143
              obtain ⟨_, hI, hf144, hw143⟩ := hw143
              refine lv_if_eq (tgt := 174) hx hb (dk_at dkX5_readFact_5 4 rfl) (by decide) (fun c145 => ?_) (fun c145 => ?_)
              · have c145 : z141 = 0 := (i_eq0 (rb hw143 (by decide) (by decide))).mp c145
                refine lv_iconst (v := iI 0) hx hb (dk_at dkX5_readFact_5 7 rfl) (by decide +kernel) ?_
                have e146 : A142 3 4 = (A133 3 4) := (hf144 3 4 rfl rfl)
                have r147 : (0 : Int) ≤ (A133 3 4) ∧ (A133 3 4) ≤ 8 := by rw [← e146]; exact irRD_4 hI
                exact RET 0 _ _ _ _ _ ⟨hk9 _ _ ⟨0, (u_d_X5_readFact_9 ⟨gI136.out, ⟨f134, (Or.inr ⟨c137, (Or.inr ⟨c139, ⟨z141, A142, ghw143, (Or.inl ⟨c145, ⟨rfl, rfl⟩⟩)⟩⟩)⟩)⟩⟩)⟩, hI, fk.trans (fk.trans (fk.trans (fk.trans (fk.trans (fk.rf) hj3 rfl rfl) hj23 rfl rfl) hf29 rfl rfl) hj132 rfl rfl) hf144 rfl rfl, by omega⟩ hP hS (dk_at dkX5_readFact_5 8 rfl)
              · have c145 : ¬ z141 = 0 := mt (i_eq0 (rb hw143 (by decide) (by decide))).mpr c145
                refine lv_iconst (v := iI 1) hx hb (dk_at dkX5_readFact_5 5 rfl) (by decide +kernel) ?_
                refine lv_goto (tgt := 175) hx hb (dk_at dkX5_readFact_5 6 rfl) (by decide) ?_
                have e148 : A142 3 4 = (A133 3 4) := (hf144 3 4 rfl rfl)
                have r149 : (0 : Int) ≤ (A133 3 4) ∧ (A133 3 4) ≤ 8 := by rw [← e148]; exact irRD_4 hI
                exact RET 1 _ _ _ _ _ ⟨hk9 _ _ ⟨0, (u_d_X5_readFact_9 ⟨gI136.out, ⟨f134, (Or.inr ⟨c137, (Or.inr ⟨c139, ⟨z141, A142, ghw143, (Or.inr ⟨c145, ⟨rfl, rfl⟩⟩)⟩⟩)⟩)⟩⟩)⟩, hI, fk.trans (fk.trans (fk.trans (fk.trans (fk.trans (fk.rf) hj3 rfl rfl) hj23 rfl rfl) hf29 rfl rfl) hj132 rfl rfl) hf144 rfl rfl, by omega⟩ hP hS (dk_at dkX5_readFact_5 8 rfl)
        refine lv_if_eq (tgt := 55) hx hb (dk_at dkX5_readFact_1 6 rfl) (by decide) (fun c30 => ?_) (fun c30 => ?_)
        · have c30 : z26 = 0 := (i_eq0 (rb hw28 (by decide) (by decide))).mp c30
          refine lv_aload_n hx hb (dk_at dkX5_readFact_1 12 rfl) rfl (lv_at hl 2 rfl) ?_
          refine lv_bipush (v := iI 91) hx hb (dk_at dkX5_readFact_1 13 rfl) (by decide +kernel) ?_
          refine k_calli (As := [.int (iI 91)]) (rest := []) ⟨hx, hb, hml, hown, hts⟩ hE (kc_X5_passesSign l dC dI cB cI cJ cZ cQ aL aS q _ 91 hI ⟨by decide, by decide⟩) (cwV 1 hts (goodVk wkq_7_42 wkq_7_43 wkq_7_44 wkq_5_28 wkq_7_45) rfl rfl rfl (by decide +kernel) ⟨by show (2) + 1 ≤ 10 * (9 - b) + 10; omega, by show 8 + (2 + 11) + (45) ≤ 400 * (9 - b) + 200; omega⟩) hK hDD hA0 hP hS 3 5 (wkRD) rfl rfl hl.1 (Nat.le_of_ble_eq_true rfl) (dk_at dkX5_readFact_1 14 rfl) (fun z32 A33 H locs hw34 hP hS => ?_)
          have ghw34 : q_X5_passesSign 91 A27 z32 A33 := hw34
          obtain ⟨_, hI, hf35, hw34⟩ := hw34
          refine lv_if_eq (tgt := 104) hx hb (dk_at dkX5_readFact_1 15 rfl) (by decide) (fun c36 => ?_) (fun c36 => ?_)
          · have c36 : z32 = 0 := (i_eq0 (rb hw34 (by decide) (by decide))).mp c36
            refine lv_aload_n hx hb (dk_at dkX5_readFact_3 3 rfl) rfl (lv_at hl 2 rfl) ?_
            refine lv_aload_n hx hb (dk_at dkX5_readFact_3 4 rfl) rfl (lv_at hl 3 rfl) ?_
            have e40 : A4 3 4 = (A 3 4) := (hj3 3 4 rfl rfl)
            have e39 : A24 3 4 = (A 3 4) := (hj23 3 4 rfl rfl).trans e40
            have e38 : A27 3 4 = (A 3 4) := (hf29 3 4 rfl rfl).trans e39
            have e37 : A33 3 4 = (A 3 4) := (hf35 3 4 rfl rfl).trans e38
            have r41 : (0 : Int) ≤ (A 3 4) ∧ (A 3 4) ≤ 8 := by rw [← e37]; exact irRD_4 hI
            refine k_calli (As := [.ref (q ta)]) (rest := []) ⟨hx, hb, hml, hown, hts⟩ hE (kq_sum l dC dI cB cI cJ cZ cQ aL aS q ta hta _ b rfl (by omega) _ hI (by omega)) (cwV 1 hts (goodVk wkq_8_1 wkq_8_2 wkq_8_3 wkq_5_28 wkq_8_4) rfl rfl rfl (by decide +kernel) ⟨by show (10 * (9 - b) + 9) + 1 ≤ 10 * (9 - b) + 10; omega, by show 8 + (4 + 11) + (400 * (9 - b) + 160) ≤ 400 * (9 - b) + 200; omega⟩) hK hDD hA0 hP hS 3 5 (wkRD) rfl rfl hl.1 (Nat.le_of_ble_eq_true rfl) (dk_at dkX5_readFact_3 5 rfl) (fun z42 A43 H locs hw44 hP hS => ?_)
            have ghw44 : q_SS_sum (rq_sum ta (8 - b)) A33 z42 A43 := hw44
            obtain ⟨_, hI, hf45, hw44⟩ := hw44
            have r46 : (0 : Int) ≤ (A43 3 4) ∧ (A43 3 4) ≤ 8 := irRD_4 hI
            have rz42 : 0 ≤ z42 ∧ z42 ≤ 1 := hw44.1
            have hw44 := hw44.2
            refine lv_istore_n (lv' := [(3, .int (iI z42)), (2, .int (iI z2)), (0, .ref (q 3)), (1, .ref (q ta))]) hx hb (dk_at dkX5_readFact_3 6 rfl) rfl hl (by decide) rfl (fun ls hl => ?_)
            refine lv_iload_n hx hb (dk_at dkX5_readFact_3 7 rfl) rfl (lv_at hl 0 rfl) ?_
            have J122_48 : ∀ (z53 : Int) (A55 : St) (H : Heap) (locs : List Loc) (ls : Array Slot), (-2147483648 ≤ z53 ∧ z53 ≤ 2147483647) → (¬ z53 = -1 → A55 3 4 = A 3 4) → (∀ (z : Int) (u : St), (∃ mm1 : Nat, (d_X5_readFact_4 b ta z2 z u z53 A55)) → r_X5_readFact SS b ta A z u) → IK A55 → fk [] [(3, 2), (3, 3), (5, 1), (5, 2), (5, 3), (5, 4), (5, 5), (5, 6)] A43 A55 → va_P (dC, dI) vwCl (WK cB cI cJ cZ cQ q A55) H → va_S AS s.heap H locs → lv_has ls 5 [(3, .int (iI z42)), (2, .int (iI z2)), (0, .ref (q 3)), (1, .ref (q ta))] → W p l e (headSpec ws_kc_X5_readFact (rqm 5 b)).room s m [.ref (q 3), .ref (q ta)].toArray below meth c H locs 0 0 Q (F0 m 122 ls [.int (iI z53)]) := by
              intro z53 A55 H locs ls f56 f57 hk4 hI hj54 hP hS hl
              have gI58 : Hd (IK A55) := Hd.mk hI
              clear hw44
              refine lv_istore (lv' := [(4, .int (iI z53)), (3, .int (iI z42)), (2, .int (iI z2)), (0, .ref (q 3)), (1, .ref (q ta))]) hx hb (dk_at dkX5_readFact_3 13 rfl) hl (by decide) rfl (fun ls hl => ?_)
              refine lv_iload hx hb (dk_at dkX5_readFact_3 14 rfl) (lv_at hl 0 rfl) ?_
              refine lv_iconst (v := iI (-1)) hx hb (dk_at dkX5_readFact_3 15 rfl) (by decide +kernel) ?_
              have J152_61 : ∀ (z77 : Int) (A79 : St) (H : Heap) (locs : List Loc) (ls : Array Slot), (0 ≤ z77 ∧ z77 ≤ 1) → (z77 = 1 → A79 3 4 = A 3 4) → (∀ (z : Int) (u : St), (∃ mm1 : Nat, (d_X5_readFact_6 ta z2 z u z77 A79)) → r_X5_readFact SS b ta A z u) → IK A79 → fk [71, 102] [(3, 2), (3, 3), (3, 4), (5, 1), (5, 2), (5, 3), (5, 4), (5, 5), (5, 6), (70, 2), (101, 2)] A55 A79 → va_P (dC, dI) vwCl (WK cB cI cJ cZ cQ q A79) H → va_S AS s.heap H locs → lv_has ls 5 [(4, .int (iI z53)), (3, .int (iI z42)), (2, .int (iI z2)), (0, .ref (q 3)), (1, .ref (q ta))] → W p l e (headSpec ws_kc_X5_readFact (rqm 5 b)).room s m [.ref (q 3), .ref (q ta)].toArray below meth c H locs 0 0 Q (F0 m 152 ls [.int (iI z77)]) := by
                intro z77 A79 H locs ls f80 f81 hk6 hI hj78 hP hS hl
                have gI82 : Hd (IK A79) := Hd.mk hI
                refine lv_istore_n (lv' := [(3, .int (iI z77)), (4, .int (iI z53)), (2, .int (iI z2)), (0, .ref (q 3)), (1, .ref (q ta))]) hx hb (dk_at dkX5_readFact_4 12 rfl) rfl hl (by decide) rfl (fun ls hl => ?_)
                have r150 : (0 : Int) ≤ (A79 3 4) ∧ (A79 3 4) ≤ 8 := irRD_4 hI
                exact J153_31 z77 _ _ _ _ (by omega) (by omega) (fun zq uq ⟨mm1, hq⟩ => hk6 _ _ ⟨mm1, (u_d_X5_readFact_6 ⟨gI82.out, ⟨f80, hq⟩⟩)⟩) hI (fk.trans (fk.trans (fk.trans (fk.trans (fk.rf) hf35 rfl rfl) hf45 rfl rfl) hj54 rfl rfl) hj78 rfl rfl) hP hS (lv_sub hl [0, 2, 3, 4] rfl)
              have J151_60 : ∀ (A75 : St) (H : Heap) (locs : List Loc) (ls : Array Slot), (∀ (z : Int) (u : St), (∃ mm1 : Nat, (d_X5_readFact_5 ta z2 z u A75)) → r_X5_readFact SS b ta A z u) → IK A75 → fk [71, 102] [(3, 2), (3, 3), (3, 4), (5, 1), (5, 2), (5, 3), (5, 4), (5, 5), (5, 6), (70, 2), (101, 2)] A55 A75 → va_P (dC, dI) vwCl (WK cB cI cJ cZ cQ q A75) H → va_S AS s.heap H locs → lv_has ls 5 [(4, .int (iI z53)), (3, .int (iI z42)), (2, .int (iI z2)), (0, .ref (q 3)), (1, .ref (q ta))] → W p l e (headSpec ws_kc_X5_readFact (rqm 5 b)).room s m [.ref (q 3), .ref (q ta)].toArray below meth c H locs 0 0 Q (F0 m 151 ls []) := by
                intro A75 H locs ls hk5 hI hj74 hP hS hl
                have gI76 : Hd (IK A75) := Hd.mk hI
                refine lv_iconst (v := iI 0) hx hb (dk_at dkX5_readFact_4 11 rfl) (by decide +kernel) ?_
                have r84 : (0 : Int) ≤ (A75 3 4) ∧ (A75 3 4) ≤ 8 := irRD_4 hI
                exact J152_61 0 _ _ _ _ (by omega) (by omega) (fun zq uq ⟨mm1, hq⟩ => hk5 _ _ ⟨mm1, (u_d_X5_readFact_5 ⟨gI76.out, hq⟩)⟩) hI (fk.trans (fk.rf) hj74 rfl rfl) hP hS (lv_sub hl [0, 1, 2, 3, 4] rfl)
              refine lv_icmp_eq (tgt := 151) hx hb (dk_at dkX5_readFact_4 0 rfl) (by decide) (fun c59 => ?_) (fun c59 => ?_)
              · have c59 : z53 = (-1) := (i_eq f56 ⟨by decide, by decide⟩).mp c59
                exact J151_60 _ _ _ _ (fun zq uq ⟨mm1, hq⟩ => hk4 _ _ ⟨mm1, (u_d_X5_readFact_4 ⟨gI58.out, ⟨f56, (Or.inl ⟨c59, hq⟩)⟩⟩)⟩) hI (fk.rf) hP hS (lv_sub hl [0, 1, 2, 3, 4] rfl)
              · have c59 : ¬ z53 = (-1) := mt (i_eq f56 ⟨by decide, by decide⟩).mpr c59
                refine lv_aload_n hx hb (dk_at dkX5_readFact_4 1 rfl) rfl (lv_at hl 3 rfl) ?_
                refine lv_aload_n hx hb (dk_at dkX5_readFact_4 2 rfl) rfl (lv_at hl 4 rfl) ?_
                have e62 : A55 3 4 = (A43 3 4) := (hj54 3 4 rfl rfl)
                refine k_calli (As := [.ref (q ta)]) (rest := []) ⟨hx, hb, hml, hown, hts⟩ hE (kq_sum l dC dI cB cI cJ cZ cQ aL aS q ta hta _ b rfl (by omega) _ hI (by omega)) (cwV 1 hts (goodVk wkq_8_1 wkq_8_2 wkq_8_3 wkq_5_28 wkq_8_4) rfl rfl rfl (by decide +kernel) ⟨by show (10 * (9 - b) + 9) + 1 ≤ 10 * (9 - b) + 10; omega, by show 8 + (4 + 11) + (400 * (9 - b) + 160) ≤ 400 * (9 - b) + 200; omega⟩) hK hDD hA0 hP hS 3 5 (wkRD) rfl rfl hl.1 (Nat.le_of_ble_eq_true rfl) (dk_at dkX5_readFact_4 3 rfl) (fun z63 A64 H locs hw65 hP hS => ?_)
                have ghw65 : q_SS_sum (rq_sum ta (8 - b)) A55 z63 A64 := hw65
                obtain ⟨_, hI, hf66, hw65⟩ := hw65
                have r67 : (0 : Int) ≤ (A64 3 4) ∧ (A64 3 4) ≤ 8 := irRD_4 hI
                have rz63 : 0 ≤ z63 ∧ z63 ≤ 1 := hw65.1
                have hw65 := hw65.2
                refine lv_if_eq (tgt := 151) hx hb (dk_at dkX5_readFact_4 4 rfl) (by decide) (fun c68 => ?_) (fun c68 => ?_)
                · have c68 : z63 = 0 := (i_eq0 (rb rz63 (by decide) (by decide))).mp c68
                  clear hw65
                  exact J151_60 _ _ _ _ (fun zq uq ⟨mm1, hq⟩ => hk4 _ _ ⟨mm1, (u_d_X5_readFact_4 ⟨gI58.out, ⟨f56, (Or.inr ⟨c59, ⟨z63, A64, ghw65, (Or.inl ⟨c68, hq⟩)⟩⟩)⟩⟩)⟩) hI (fk.trans (fk.rf) hf66 rfl rfl) hP hS (lv_sub hl [0, 1, 2, 3, 4] rfl)
                · have c68 : ¬ z63 = 0 := mt (i_eq0 (rb rz63 (by decide) (by decide))).mpr c68
                  have hw65b := hw65 (by omega)
                  clear hw65
                  refine lv_aload_n hx hb (dk_at dkX5_readFact_4 5 rfl) rfl (lv_at hl 4 rfl) ?_
                  refine lv_iload hx hb (dk_at dkX5_readFact_4 6 rfl) (lv_at hl 0 rfl) ?_
                  refine k_calli (As := [.int (iI z53)]) (rest := []) ⟨hx, hb, hml, hown, hts⟩ hE (kc_X8_add l dC dI cB cI cJ cZ cQ aL aS q _ ta z53 hI hta f56) (cwV 1 hts (goodVk wkq_7_33 wkq_7_34 wkq_7_35 wkq_1_35 wkq_7_36) rfl rfl rfl (by decide +kernel) ⟨by show (0) + 1 ≤ 10 * (9 - b) + 10; omega, by show 8 + (2 + 11) + (0) ≤ 400 * (9 - b) + 200; omega⟩) hK hDD hA0 hP hS ta 8 (wkE hta) rfl rfl hl.1 (Nat.le_of_ble_eq_true rfl) (dk_at dkX5_readFact_4 7 rfl) (fun z69 A70 H locs hw71 hP hS => ?_)
                  have ghw71 : q_X8_add ta z53 A64 z69 A70 := hw71
                  obtain ⟨_, hI, hf72, hw71⟩ := hw71
                  refine lv_if_eq (tgt := 151) hx hb (dk_at dkX5_readFact_4 8 rfl) (by decide) (fun c73 => ?_) (fun c73 => ?_)
                  · have c73 : z69 = 0 := (i_eq0 (rb hw71 (by decide) (by decide))).mp c73
                    exact J151_60 _ _ _ _ (fun zq uq ⟨mm1, hq⟩ => hk4 _ _ ⟨mm1, (u_d_X5_readFact_4 ⟨gI58.out, ⟨f56, (Or.inr ⟨c59, ⟨z63, A64, ghw65, (Or.inr ⟨c68, ⟨z69, A70, ghw71, (Or.inl ⟨c73, hq⟩)⟩⟩)⟩⟩)⟩⟩)⟩) hI (fk.trans (fk.trans (fk.rf) hf66 rfl rfl) hf72 rfl rfl) hP hS (lv_sub hl [0, 1, 2, 3, 4] rfl)
                  · have c73 : ¬ z69 = 0 := mt (i_eq0 (rb hw71 (by decide) (by decide))).mpr c73
                    refine lv_iconst (v := iI 1) hx hb (dk_at dkX5_readFact_4 9 rfl) (by decide +kernel) ?_
                    refine lv_goto (tgt := 152) hx hb (dk_at dkX5_readFact_4 10 rfl) (by decide) ?_
                    have e83 : A70 3 4 = (A64 3 4) := (hf72 3 4 rfl rfl)
                    exact J152_61 1 _ _ _ _ (by omega) (by omega) (fun zq uq ⟨mm1, hq⟩ => hk4 _ _ ⟨mm1, (u_d_X5_readFact_4 ⟨gI58.out, ⟨f56, (Or.inr ⟨c59, ⟨z63, A64, ghw65, (Or.inr ⟨c68, ⟨z69, A70, ghw71, (Or.inr ⟨c73, hq⟩)⟩⟩)⟩⟩)⟩⟩)⟩) hI (fk.trans (fk.trans (fk.rf) hf66 rfl rfl) hf72 rfl rfl) hP hS (lv_sub hl [0, 1, 2, 3, 4] rfl)
            refine lv_if_eq (tgt := 121) hx hb (dk_at dkX5_readFact_3 8 rfl) (by decide) (fun c47 => ?_) (fun c47 => ?_)
            · have c47 : z42 = 0 := (i_eq0 (rb rz42 (by decide) (by decide))).mp c47
              clear hw44
              refine lv_iconst (v := iI (-1)) hx hb (dk_at dkX5_readFact_3 12 rfl) (by decide +kernel) ?_
              exact J122_48 (-1) _ _ _ _ (by omega) (by omega) (fun zq uq ⟨mm1, hq⟩ => hk3 _ _ ⟨mm1, (u_d_X5_readFact_3 ⟨gI25.out, ⟨z26, A27, ghw28, (Or.inl ⟨c30, ⟨z32, A33, ghw34, (Or.inl ⟨c36, ⟨z42, A43, ghw44, (Or.inl ⟨c47, hq⟩)⟩⟩)⟩⟩)⟩⟩)⟩) hI (fk.rf) hP hS (lv_sub hl [0, 1, 2, 3] rfl)
            · have c47 : ¬ z42 = 0 := mt (i_eq0 (rb rz42 (by decide) (by decide))).mpr c47
              have hw44b := hw44 (by omega)
              clear hw44
              refine lv_aload_n hx hb (dk_at dkX5_readFact_3 9 rfl) rfl (lv_at hl 2 rfl) ?_
              refine k_calli (As := []) (rest := []) ⟨hx, hb, hml, hown, hts⟩ hE (kc_X5_comparisonSign l dC dI cB cI cJ cZ cQ aL aS q _ hI) (cwV 0 hts (goodVk wkq_8_17 wkq_8_18 wkq_8_19 wkq_5_28 wkq_8_20) rfl rfl rfl (by decide +kernel) ⟨by show (2) + 1 ≤ 10 * (9 - b) + 10; omega, by show 8 + (2 + 11) + (45) ≤ 400 * (9 - b) + 200; omega⟩) hK hDD hA0 hP hS 3 5 (wkRD) rfl rfl hl.1 (Nat.le_of_ble_eq_true rfl) (dk_at dkX5_readFact_3 10 rfl) (fun z49 A50 H locs hw51 hP hS => ?_)
              have ghw51 : q_X5_comparisonSign A43 z49 A50 := hw51
              obtain ⟨_, hI, hf52, hw51⟩ := hw51
              refine lv_goto (tgt := 122) hx hb (dk_at dkX5_readFact_3 11 rfl) (by decide) ?_
              have e85 : A50 3 4 = (A43 3 4) := (hf52 3 4 rfl rfl)
              exact J122_48 z49 _ _ _ _ (by omega) (by omega) (fun zq uq ⟨mm1, hq⟩ => hk3 _ _ ⟨mm1, (u_d_X5_readFact_3 ⟨gI25.out, ⟨z26, A27, ghw28, (Or.inl ⟨c30, ⟨z32, A33, ghw34, (Or.inl ⟨c36, ⟨z42, A43, ghw44, (Or.inr ⟨c47, ⟨z49, A50, ghw51, hq⟩⟩)⟩⟩)⟩⟩)⟩⟩)⟩) hI (fk.trans (fk.rf) hf52 rfl rfl) hP hS (lv_sub hl [0, 1, 2, 3] rfl)
          · have c36 : ¬ z32 = 0 := mt (i_eq0 (rb hw34 (by decide) (by decide))).mpr c36
            refine lv_aload_n hx hb (dk_at dkX5_readFact_2 0 rfl) rfl (lv_at hl 2 rfl) ?_
            have e89 : A4 3 4 = (A 3 4) := (hj3 3 4 rfl rfl)
            have e88 : A24 3 4 = (A 3 4) := (hj23 3 4 rfl rfl).trans e89
            have e87 : A27 3 4 = (A 3 4) := (hf29 3 4 rfl rfl).trans e88
            have e86 : A33 3 4 = (A 3 4) := (hf35 3 4 rfl rfl).trans e87
            have r90 : (0 : Int) ≤ (A 3 4) ∧ (A 3 4) ≤ 8 := by rw [← e86]; exact irRD_4 hI
            refine k_calli (As := []) (rest := []) ⟨hx, hb, hml, hown, hts⟩ hE (kc_X5_enter l dC dI cB cI cJ cZ cQ aL aS q _ hI) (cwV 0 hts (goodVk wkq_7_49 wkq_7_50 wkq_7_51 wkq_5_28 wkq_7_52) rfl rfl rfl (by decide +kernel) ⟨by show (1) + 1 ≤ 10 * (9 - b) + 10; omega, by show 8 + (1 + 11) + (21) ≤ 400 * (9 - b) + 200; omega⟩) hK hDD hA0 hP hS 3 5 (wkRD) rfl rfl hl.1 (Nat.le_of_ble_eq_true rfl) (dk_at dkX5_readFact_2 1 rfl) (fun z91 A92 H locs hw93 hP hS => ?_)
            have ghw93 : q_X5_enter A33 z91 A92 := hw93
            obtain ⟨_, hI, hf94, hw93⟩ := hw93
            have r95 : (0 : Int) ≤ (A92 3 4) ∧ (A92 3 4) ≤ 8 := irRD_4 hI
            have rz91 : 0 ≤ z91 ∧ z91 ≤ 1 := hw93.1
            have hw93 := hw93.2
            have J100_98 : ∀ (z120 : Int) (A122 : St) (H : Heap) (locs : List Loc) (ls : Array Slot), (0 ≤ z120 ∧ z120 ≤ 1) → (z120 = 1 → A122 3 4 = A 3 4) → (∀ (z : Int) (u : St), (∃ mm1 : Nat, (d_X5_readFact_8 ta z2 z u z120 A122)) → r_X5_readFact SS b ta A z u) → IK A122 → fk [71, 102] [(3, 2), (3, 3), (3, 4), (5, 1), (5, 2), (5, 3), (5, 4), (5, 5), (5, 6), (70, 2), (101, 2)] A92 A122 → va_P (dC, dI) vwCl (WK cB cI cJ cZ cQ q A122) H → va_S AS s.heap H locs → lv_has ls 5 [(3, .int (iI z1)), (2, .int (iI z2)), (0, .ref (q 3)), (1, .ref (q ta))] → W p l e (headSpec ws_kc_X5_readFact (rqm 5 b)).room s m [.ref (q 3), .ref (q ta)].toArray below meth c H locs 0 0 Q (F0 m 100 ls [.int (iI z120)]) := by
              intro z120 A122 H locs ls f123 f124 hk8 hI hj121 hP hS hl
              have gI125 : Hd (IK A122) := Hd.mk hI
              clear hw93
              refine lv_istore_n (lv' := [(3, .int (iI z120)), (2, .int (iI z2)), (0, .ref (q 3)), (1, .ref (q ta))]) hx hb (dk_at dkX5_readFact_3 1 rfl) rfl hl (by decide) rfl (fun ls hl => ?_)
              refine lv_goto (tgt := 153) hx hb (dk_at dkX5_readFact_3 2 rfl) (by decide) ?_
              have r151 : (0 : Int) ≤ (A122 3 4) ∧ (A122 3 4) ≤ 8 := irRD_4 hI
              exact J153_31 z120 _ _ _ _ (by omega) (by omega) (fun zq uq ⟨mm1, hq⟩ => hk8 _ _ ⟨mm1, (u_d_X5_readFact_8 ⟨gI125.out, ⟨f123, hq⟩⟩)⟩) hI (fk.trans (fk.trans (fk.trans (fk.rf) hf35 rfl rfl) hf94 rfl rfl) hj121 rfl rfl) hP hS (lv_sub hl [0, 1, 2, 3] rfl)
            have J99_97 : ∀ (A118 : St) (H : Heap) (locs : List Loc) (ls : Array Slot), (∀ (z : Int) (u : St), (∃ mm1 : Nat, (d_X5_readFact_7 ta z2 z u A118)) → r_X5_readFact SS b ta A z u) → IK A118 → fk [71, 102] [(3, 2), (3, 3), (3, 4), (5, 1), (5, 2), (5, 3), (5, 4), (5, 5), (5, 6), (70, 2), (101, 2)] A92 A118 → va_P (dC, dI) vwCl (WK cB cI cJ cZ cQ q A118) H → va_S AS s.heap H locs → lv_has ls 5 [(3, .int (iI z1)), (2, .int (iI z2)), (0, .ref (q 3)), (1, .ref (q ta))] → W p l e (headSpec ws_kc_X5_readFact (rqm 5 b)).room s m [.ref (q 3), .ref (q ta)].toArray below meth c H locs 0 0 Q (F0 m 99 ls []) := by
              intro A118 H locs ls hk7 hI hj117 hP hS hl
              have gI119 : Hd (IK A118) := Hd.mk hI
              clear hw93
              refine lv_iconst (v := iI 0) hx hb (dk_at dkX5_readFact_3 0 rfl) (by decide +kernel) ?_
              have r126 : (0 : Int) ≤ (A118 3 4) ∧ (A118 3 4) ≤ 8 := irRD_4 hI
              exact J100_98 0 _ _ _ _ (by omega) (by omega) (fun zq uq ⟨mm1, hq⟩ => hk7 _ _ ⟨mm1, (u_d_X5_readFact_7 ⟨gI119.out, hq⟩)⟩) hI (fk.trans (fk.rf) hj117 rfl rfl) hP hS (lv_sub hl [0, 1, 2, 3] rfl)
            refine lv_if_eq (tgt := 99) hx hb (dk_at dkX5_readFact_2 2 rfl) (by decide) (fun c96 => ?_) (fun c96 => ?_)
            · have c96 : z91 = 0 := (i_eq0 (rb rz91 (by decide) (by decide))).mp c96
              clear hw93
              exact J99_97 _ _ _ _ (fun zq uq ⟨mm1, hq⟩ => hk3 _ _ ⟨mm1, (u_d_X5_readFact_3 ⟨gI25.out, ⟨z26, A27, ghw28, (Or.inl ⟨c30, ⟨z32, A33, ghw34, (Or.inr ⟨c36, ⟨z91, A92, ghw93, (Or.inl ⟨c96, hq⟩)⟩⟩)⟩⟩)⟩⟩)⟩) hI (fk.rf) hP hS (lv_sub hl [0, 1, 2, 3] rfl)
            · have c96 : ¬ z91 = 0 := mt (i_eq0 (rb rz91 (by decide) (by decide))).mpr c96
              have hw93b := hw93 (by omega)
              clear hw93
              refine lv_aload_n hx hb (dk_at dkX5_readFact_2 3 rfl) rfl (lv_at hl 2 rfl) ?_
              refine lv_aload_n hx hb (dk_at dkX5_readFact_2 4 rfl) rfl (lv_at hl 3 rfl) ?_
              refine k_calli (As := [.ref (q ta)]) (rest := []) ⟨hx, hb, hml, hown, hts⟩ hE (IHt _ hI (by omega) (by omega)) (cwV 1 hts (goodVk wkq_7_26 wkq_7_27 wkq_7_28 wkq_5_28 wkq_7_29) rfl rfl rfl (by decide +kernel) ⟨by show (10 * (9 - (b + 1)) + 12) + 1 ≤ 10 * (9 - b) + 10; omega, by show 8 + (3 + 11) + (400 * (9 - (b + 1)) + 280) ≤ 400 * (9 - b) + 200; omega⟩) hK hDD hA0 hP hS 3 5 (wkRD) rfl rfl hl.1 (Nat.le_of_ble_eq_true rfl) (dk_at dkX5_readFact_2 5 rfl) (fun z99 A100 H locs hw101 hP hS => ?_)
              have ghw101 : q_SS_test SS A92 z99 A100 := hw101
              obtain ⟨_, hI, hf102, hw101⟩ := hw101
              have r103 : (0 : Int) ≤ (A100 3 4) ∧ (A100 3 4) ≤ 8 := irRD_4 hI
              have rz99 : 0 ≤ z99 ∧ z99 ≤ 1 := hw101.1
              have hw101 := hw101.2
              refine lv_if_eq (tgt := 99) hx hb (dk_at dkX5_readFact_2 6 rfl) (by decide) (fun c104 => ?_) (fun c104 => ?_)
              · have c104 : z99 = 0 := (i_eq0 (rb rz99 (by decide) (by decide))).mp c104
                clear hw101
                exact J99_97 _ _ _ _ (fun zq uq ⟨mm1, hq⟩ => hk3 _ _ ⟨mm1, (u_d_X5_readFact_3 ⟨gI25.out, ⟨z26, A27, ghw28, (Or.inl ⟨c30, ⟨z32, A33, ghw34, (Or.inr ⟨c36, ⟨z91, A92, ghw93, (Or.inr ⟨c96, ⟨z99, A100, ghw101, (Or.inl ⟨c104, hq⟩)⟩⟩)⟩⟩)⟩⟩)⟩⟩)⟩) hI (fk.trans (fk.rf) hf102 rfl rfl) hP hS (lv_sub hl [0, 1, 2, 3] rfl)
              · have c104 : ¬ z99 = 0 := mt (i_eq0 (rb rz99 (by decide) (by decide))).mpr c104
                have hw101b := hw101 (by omega)
                clear hw101
                refine lv_aload_n hx hb (dk_at dkX5_readFact_2 7 rfl) rfl (lv_at hl 2 rfl) ?_
                refine lv_bipush (v := iI 93) hx hb (dk_at dkX5_readFact_2 8 rfl) (by decide +kernel) ?_
                refine k_calli (As := [.int (iI 93)]) (rest := []) ⟨hx, hb, hml, hown, hts⟩ hE (kc_X5_sign l dC dI cB cI cJ cZ cQ aL aS q _ 93 hI ⟨by decide, by decide⟩) (cwV 1 hts (goodVk wkq_7_53 wkq_7_54 wkq_7_55 wkq_5_28 wkq_7_56) rfl rfl rfl (by decide +kernel) ⟨by show (2) + 1 ≤ 10 * (9 - b) + 10; omega, by show 8 + (2 + 11) + (45) ≤ 400 * (9 - b) + 200; omega⟩) hK hDD hA0 hP hS 3 5 (wkRD) rfl rfl hl.1 (Nat.le_of_ble_eq_true rfl) (dk_at dkX5_readFact_2 9 rfl) (fun z105 A106 H locs hw107 hP hS => ?_)
                have ghw107 : q_X5_sign 93 A100 z105 A106 := hw107
                obtain ⟨_, hI, hf108, hw107⟩ := hw107
                refine lv_if_eq (tgt := 99) hx hb (dk_at dkX5_readFact_2 10 rfl) (by decide) (fun c109 => ?_) (fun c109 => ?_)
                · have c109 : z105 = 0 := (i_eq0 (rb hw107 (by decide) (by decide))).mp c109
                  exact J99_97 _ _ _ _ (fun zq uq ⟨mm1, hq⟩ => hk3 _ _ ⟨mm1, (u_d_X5_readFact_3 ⟨gI25.out, ⟨z26, A27, ghw28, (Or.inl ⟨c30, ⟨z32, A33, ghw34, (Or.inr ⟨c36, ⟨z91, A92, ghw93, (Or.inr ⟨c96, ⟨z99, A100, ghw101, (Or.inr ⟨c104, ⟨z105, A106, ghw107, (Or.inl ⟨c109, hq⟩)⟩⟩)⟩⟩)⟩⟩)⟩⟩)⟩⟩)⟩) hI (fk.trans (fk.trans (fk.rf) hf102 rfl rfl) hf108 rfl rfl) hP hS (lv_sub hl [0, 1, 2, 3] rfl)
                · have c109 : ¬ z105 = 0 := mt (i_eq0 (rb hw107 (by decide) (by decide))).mpr c109
                  refine lv_aload_n hx hb (dk_at dkX5_readFact_2 11 rfl) rfl (lv_at hl 2 rfl) ?_
                  have e110 : A106 3 4 = (A100 3 4) := (hf108 3 4 rfl rfl)
                  refine k_calli (As := []) (rest := []) ⟨hx, hb, hml, hown, hts⟩ hE (kc_X5_leave l dC dI cB cI cJ cZ cQ aL aS q _ hI (by omega)) (cwV 0 hts (goodVk wkq_7_57 wkq_7_58 wkq_7_59 wkq_5_28 wkq_8_0) rfl rfl rfl (by decide +kernel) ⟨by show (0) + 1 ≤ 10 * (9 - b) + 10; omega, by show 8 + (1 + 11) + (0) ≤ 400 * (9 - b) + 200; omega⟩) hK hDD hA0 hP hS 3 5 (wkRD) rfl rfl hl.1 (Nat.le_of_ble_eq_true rfl) (dk_at dkX5_readFact_2 12 rfl) (fun z111 A112 H locs hw113 hP hS => ?_)
                  have ghw113 : q_X5_leave A106 z111 A112 := hw113
                  obtain ⟨_, hI, hf114, hw113⟩ := hw113
                  have r115 : (0 : Int) ≤ (A112 3 4) ∧ (A112 3 4) ≤ 8 := irRD_4 hI
                  have rz111 : 0 ≤ z111 ∧ z111 ≤ 1 := hw113.1
                  have hw113 := hw113.2
                  refine lv_if_eq (tgt := 99) hx hb (dk_at dkX5_readFact_2 13 rfl) (by decide) (fun c116 => False.elim (by have c116 : z111 = 0 := (i_eq0 (rb rz111 (by decide) (by decide))).mp c116; omega)) (fun _ => ?_)
                  refine lv_iconst (v := iI 1) hx hb (dk_at dkX5_readFact_2 14 rfl) (by decide +kernel) ?_
                  refine lv_goto (tgt := 100) hx hb (dk_at dkX5_readFact_2 15 rfl) (by decide) ?_
                  exact J100_98 1 _ _ _ _ (by omega) (by omega) (fun zq uq ⟨mm1, hq⟩ => hk3 _ _ ⟨mm1, (u_d_X5_readFact_3 ⟨gI25.out, ⟨z26, A27, ghw28, (Or.inl ⟨c30, ⟨z32, A33, ghw34, (Or.inr ⟨c36, ⟨z91, A92, ghw93, (Or.inr ⟨c96, ⟨z99, A100, ghw101, (Or.inr ⟨c104, ⟨z105, A106, ghw107, (Or.inr ⟨c109, ⟨z111, A112, ghw113, hq⟩⟩)⟩⟩)⟩⟩)⟩⟩)⟩⟩)⟩⟩)⟩) hI (fk.trans (fk.trans (fk.trans (fk.rf) hf102 rfl rfl) hf108 rfl rfl) hf114 rfl rfl) hP hS (lv_sub hl [0, 1, 2, 3] rfl)
        · have c30 : ¬ z26 = 0 := mt (i_eq0 (rb hw28 (by decide) (by decide))).mpr c30
          refine lv_aload_n hx hb (dk_at dkX5_readFact_1 7 rfl) rfl (lv_at hl 3 rfl) ?_
          refine lv_bipush (v := iI (-5)) hx hb (dk_at dkX5_readFact_1 8 rfl) (by decide +kernel) ?_
          refine k_calli (As := [.int (iI (-5))]) (rest := []) ⟨hx, hb, hml, hown, hts⟩ hE (kc_X8_add l dC dI cB cI cJ cZ cQ aL aS q _ ta (-5) hI hta ⟨by decide, by decide⟩) (cwV 1 hts (goodVk wkq_7_33 wkq_7_34 wkq_7_35 wkq_1_35 wkq_7_36) rfl rfl rfl (by decide +kernel) ⟨by show (0) + 1 ≤ 10 * (9 - b) + 10; omega, by show 8 + (2 + 11) + (0) ≤ 400 * (9 - b) + 200; omega⟩) hK hDD hA0 hP hS ta 8 (wkE hta) rfl rfl hl.1 (Nat.le_of_ble_eq_true rfl) (dk_at dkX5_readFact_1 9 rfl) (fun z127 A128 H locs hw129 hP hS => ?_)
          have ghw129 : q_X8_add ta (-5) A27 z127 A128 := hw129
          obtain ⟨_, hI, hf130, hw129⟩ := hw129
          refine lv_istore_n (lv' := [(3, .int (iI z127)), (2, .int (iI z2)), (0, .ref (q 3)), (1, .ref (q ta))]) hx hb (dk_at dkX5_readFact_1 10 rfl) rfl hl (by decide) rfl (fun ls hl => ?_)
          refine lv_goto (tgt := 153) hx hb (dk_at dkX5_readFact_1 11 rfl) (by decide) ?_
          have e155 : A4 3 4 = (A 3 4) := (hj3 3 4 rfl rfl)
          have e154 : A24 3 4 = (A 3 4) := (hj23 3 4 rfl rfl).trans e155
          have e153 : A27 3 4 = (A 3 4) := (hf29 3 4 rfl rfl).trans e154
          have e152 : A128 3 4 = (A 3 4) := (hf130 3 4 rfl rfl).trans e153
          have r156 : (0 : Int) ≤ (A 3 4) ∧ (A 3 4) ≤ 8 := by rw [← e152]; exact irRD_4 hI
          exact J153_31 z127 _ _ _ _ (by omega) (by omega) (fun zq uq ⟨mm1, hq⟩ => hk3 _ _ ⟨mm1, (u_d_X5_readFact_3 ⟨gI25.out, ⟨z26, A27, ghw28, (Or.inr ⟨c30, ⟨z127, A128, ghw129, hq⟩⟩)⟩⟩)⟩) hI (fk.trans (fk.rf) hf130 rfl rfl) hP hS (lv_sub hl [0, 1, 2, 3] rfl)
      refine lv_icmp_ge (tgt := 36) hx hb (dk_at dkX5_readFact_0 6 rfl) (by decide) (fun c11 => ?_) (fun c11 => ?_)
      · have c11 : 1600 ≤ z1 := (i_le ⟨by decide, by decide⟩ (rb f7 (by decide) (by decide))).mp c11
        exact J36_12 _ _ _ _ (fun zq uq ⟨mm1, hq⟩ => hk1 _ _ ⟨mm1 + 1, (u_d_X5_readFact_1 ⟨gI10.out, ⟨f7, ⟨f8, (Or.inl ⟨c11, hq⟩)⟩⟩⟩)⟩) hI (fk.rf) hP hS (lv_sub hl [0, 1, 2, 3] rfl)
      · have c11 : ¬ 1600 ≤ z1 := mt (i_le ⟨by decide, by decide⟩ (rb f7 (by decide) (by decide))).mpr c11
        refine lv_aload_n hx hb (dk_at dkX5_readFact_0 7 rfl) rfl (lv_at hl 2 rfl) ?_
        refine lv_bipush (v := iI 18) hx hb (dk_at dkX5_readFact_0 8 rfl) (by decide +kernel) ?_
        refine k_calli (As := [.int (iI 18)]) (rest := []) ⟨hx, hb, hml, hown, hts⟩ hE (kc_X5_passesWord l dC dI cB cI cJ cZ cQ aL aS q _ 18 hI ⟨by decide, by decide⟩) (cwV 1 hts (goodVk wkq_6_27 wkq_6_28 wkq_6_29 wkq_5_28 wkq_6_30) rfl rfl rfl (by decide +kernel) ⟨by show (2) + 1 ≤ 10 * (9 - b) + 10; omega, by show 8 + (2 + 11) + (45) ≤ 400 * (9 - b) + 200; omega⟩) hK hDD hA0 hP hS 3 5 (wkRD) rfl rfl hl.1 (Nat.le_of_ble_eq_true rfl) (dk_at dkX5_readFact_0 9 rfl) (fun z13 A14 H locs hw15 hP hS => ?_)
        have ghw15 : q_X5_passesWord 18 A4 z13 A14 := hw15
        obtain ⟨_, hI, hf16, hw15⟩ := hw15
        refine lv_if_eq (tgt := 36) hx hb (dk_at dkX5_readFact_0 10 rfl) (by decide) (fun c17 => ?_) (fun c17 => ?_)
        · have c17 : z13 = 0 := (i_eq0 (rb hw15 (by decide) (by decide))).mp c17
          exact J36_12 _ _ _ _ (fun zq uq ⟨mm1, hq⟩ => hk1 _ _ ⟨mm1 + 1, (u_d_X5_readFact_1 ⟨gI10.out, ⟨f7, ⟨f8, (Or.inr ⟨c11, ⟨z13, A14, ghw15, (Or.inl ⟨c17, hq⟩)⟩⟩)⟩⟩⟩)⟩) hI (fk.trans (fk.rf) hf16 rfl rfl) hP hS (lv_sub hl [0, 1, 2, 3] rfl)
        · have c17 : ¬ z13 = 0 := mt (i_eq0 (rb hw15 (by decide) (by decide))).mpr c17
          refine lv_iload_n hx hb (dk_at dkX5_readFact_0 11 rfl) rfl (lv_at hl 1 rfl) ?_
          have J29_19 : ∀ (z20 : Int) (H : Heap) (locs : List Loc) (ls : Array Slot), (0 ≤ z20 ∧ z20 ≤ 1) → (∀ (z : Int) (u : St), (∃ mm1 : Nat, (d_X5_readFact_2 (fun z1' z2' A4' => d_X5_readFact_1 SS b ta z u mm1 z1' z2' A4') z1 A14 z u z20)) → r_X5_readFact SS b ta A z u) → va_P (dC, dI) vwCl (WK cB cI cJ cZ cQ q A14) H → va_S AS s.heap H locs → lv_has ls 5 [(3, .int (iI z1)), (2, .int (iI z2)), (0, .ref (q 3)), (1, .ref (q ta))] → W p l e (headSpec ws_kc_X5_readFact (rqm 5 b)).room s m [.ref (q 3), .ref (q ta)].toArray below meth c H locs 0 0 Q (F0 m 29 ls [.int (iI z20)]) := by
            intro z20 H locs ls f22 hk2 hP hS hl
            refine lv_istore_n (lv' := [(2, .int (iI z20)), (3, .int (iI z1)), (0, .ref (q 3)), (1, .ref (q ta))]) hx hb (dk_at dkX5_readFact_1 0 rfl) rfl hl (by decide) rfl (fun ls hl => ?_)
            refine lv_iinc (v := iI (z1 + 1)) (lv' := [(3, .int (iI (z1 + 1))), (2, .int (iI z20)), (0, .ref (q 3)), (1, .ref (q ta))]) hx hb (dk_at dkX5_readFact_1 1 rfl) hl (k := 1) rfl (i_inc (by omega)) (by decide) rfl (fun ls hl => ?_)
            refine lv_goto (tgt := 4) hx hb (dk_at dkX5_readFact_1 2 rfl) (by decide) ?_
            exact ih6 _ (by omega) (z1 + 1) z20 _ _ _ _ (by omega) (by omega) (fun zq uq ⟨mm1, hq⟩ => hk2 _ _ ⟨mm1, (u_d_X5_readFact_2 ⟨f22, hq⟩)⟩) rfl hI (fk.trans (fk.trans (fk.rf) hj3 rfl rfl) hf16 rfl rfl) hP hS (lv_sub hl [0, 1, 2, 3] rfl)
          refine lv_if_ne (tgt := 28) hx hb (dk_at dkX5_readFact_0 12 rfl) (by decide) (fun c18 => ?_) (fun c18 => ?_)
          · have c18 : ¬ z2 = 0 := mt (i_eq0 (rb f8 (by decide) (by decide))).mpr c18
            refine lv_iconst (v := iI 0) hx hb (dk_at dkX5_readFact_0 15 rfl) (by decide +kernel) ?_
            exact J29_19 0 _ _ _ (by omega) (fun zq uq ⟨mm1, hq⟩ => hk1 _ _ ⟨mm1 + 1, (u_d_X5_readFact_1 ⟨gI10.out, ⟨f7, ⟨f8, (Or.inr ⟨c11, ⟨z13, A14, ghw15, (Or.inr ⟨c17, (Or.inl ⟨c18, hq⟩)⟩)⟩⟩)⟩⟩⟩)⟩) hP hS (lv_sub hl [0, 1, 2, 3] rfl)
          · have c18 : z2 = 0 := (i_eq0 (rb f8 (by decide) (by decide))).mp c18
            refine lv_iconst (v := iI 1) hx hb (dk_at dkX5_readFact_0 13 rfl) (by decide +kernel) ?_
            refine lv_goto (tgt := 29) hx hb (dk_at dkX5_readFact_0 14 rfl) (by decide) ?_
            exact J29_19 1 _ _ _ (by omega) (fun zq uq ⟨mm1, hq⟩ => hk1 _ _ ⟨mm1 + 1, (u_d_X5_readFact_1 ⟨gI10.out, ⟨f7, ⟨f8, (Or.inr ⟨c11, ⟨z13, A14, ghw15, (Or.inr ⟨c17, (Or.inr ⟨c18, hq⟩)⟩)⟩⟩)⟩⟩⟩)⟩) hP hS (lv_sub hl [0, 1, 2, 3] rfl)
  exact L4_5 _ 0 0 _ _ _ _ (by omega) (by omega) (fun zq uq ⟨mm1, hq⟩ => (u_r_X5_readFact ⟨mm1, hq⟩)) rfl hI (fk.rf) hP hS (lv_sub hl [0, 1, 2, 3] rfl)

abbrev tr_d_X5_readBoth_1 (SS : St → Int → St → Prop) (b : Nat) (ta : Nat) (z : Int) (u : St) (K1 : Int → St → Prop) (z8 : Int) (A10 : St) : Prop := ((IK A10) ∧ ((0 ≤ z8 ∧ z8 ≤ 2147483647) ∧ (((1600 ≤ z8) ∧ (z = 1 ∧ u = A10)) ∨ ((¬ 1600 ≤ z8) ∧ (∃ z19 : Int, ∃ A20 : St, q_X5_passesWord 17 A10 z19 A20 ∧ (((z19 = 0) ∧ (z = 1 ∧ u = A20)) ∨ ((¬ z19 = 0) ∧ (∃ z26 : Int, ∃ A27 : St, q_X5_readFact SS b ta A20 z26 A27 ∧ (((z26 = 0) ∧ (z = 0 ∧ u = A27)) ∨ ((¬ z26 = 0) ∧ (∃ z32 : Int, ∃ A33 : St, q_X8_add ta (-8) A27 z32 A33 ∧ (((¬ z32 = 0) ∧ (K1 (z8 + 1) A33)) ∨ ((z32 = 0) ∧ (z = 0 ∧ u = A33))))))))))))))
def d_X5_readBoth_1 (SS : St → Int → St → Prop) (b : Nat) (ta : Nat) (z : Int) (u : St) : Nat → Int → St → Prop
  | 0, _, _ => False
  | nn9 + 1, z8, A10 => tr_d_X5_readBoth_1 SS b ta z u (fun z8 A10 => d_X5_readBoth_1 SS b ta z u nn9 z8 A10) z8 A10
theorem u_d_X5_readBoth_1 {SS : St → Int → St → Prop} {b : Nat} {ta : Nat} {z : Int} {u : St} {nn9 : Nat} {z8 : Int} {A10 : St} (h : tr_d_X5_readBoth_1 SS b ta z u (fun z8 A10 => d_X5_readBoth_1 SS b ta z u nn9 z8 A10) z8 A10) : d_X5_readBoth_1 SS b ta z u (nn9 + 1) z8 A10 := h
abbrev tr_r_X5_readBoth (SS : St → Int → St → Prop) (b : Nat) (ta : Nat) (A : St) (z : Int) (u : St) : Prop := (∃ z2 : Int, ∃ A3 : St, q_X5_readFact SS b ta A z2 A3 ∧ (((¬ z2 = 0) ∧ (∃ nn9 : Nat, d_X5_readBoth_1 SS b ta z u nn9 0 A3)) ∨ ((z2 = 0) ∧ (z = 0 ∧ u = A3))))
def r_X5_readBoth (SS : St → Int → St → Prop) (b : Nat) (ta : Nat) (A : St) (z : Int) (u : St) : Prop := tr_r_X5_readBoth SS b ta A z u
theorem u_r_X5_readBoth {SS : St → Int → St → Prop} {b : Nat} {ta : Nat} {A : St} {z : Int} {u : St} (h : tr_r_X5_readBoth SS b ta A z u) : r_X5_readBoth SS b ta A z u := h
def q_X5_readBoth (SS : St → Int → St → Prop) (b : Nat) (ta : Nat) (A : St) (z : Int) (u : St) : Prop := r_X5_readBoth SS b ta A z u ∧ IK u ∧ fk [71, 102] [(3, 2), (3, 3), (3, 4), (5, 1), (5, 2), (5, 3), (5, 4), (5, 5), (5, 6), (70, 2), (101, 2)] A u ∧ ((0 ≤ z ∧ z ≤ 1) ∧ (z = 1 → u 3 4 = A 3 4))
set_option maxHeartbeats 4000000 in
set_option maxRecDepth 100000 in
theorem kc_X5_readBoth (l : Launch) (dC : Nat → ClassId) (dI : Nat → Nat → Nat) (cB cI cJ cZ cQ : ClassId) (aL aS : Nat) (q : Nat → Nat) (SS : St → Int → St → Prop) (b : Nat) (A : St) (ta : Nat) (hI : IK A) (hta : isE ta) (hp0 : A 3 4 = (b : Int)) (hp1 : b ≤ 8) (IHt : ∀ A : St, IK A → A 3 4 = (b : Int) + 1 → b + 1 ≤ 8 → KMi l yX5_readTest ws_kc_X5_readTest (rqm 7 (b + 1)) aL aS (dC, dI) (tyA cB cI cJ cZ cQ) (WK cB cI cJ cZ cQ q) A [.ref (q 3), .ref (q ta)] (fun z u => SS A z u ∧ IK u ∧ fk [71, 102] [(3, 2), (3, 3), (3, 4), (5, 1), (5, 2), (5, 3), (5, 4), (5, 5), (5, 6), (70, 2), (101, 2)] A u ∧ ((0 ≤ z ∧ z ≤ 1) ∧ (z = 1 → u 3 4 = A 3 4)))) : KMi l yX5_readBoth ws_kc_X5_readBoth (rqm 6 b) aL aS (dC, dI) (tyA cB cI cJ cZ cQ) (WK cB cI cJ cZ cQ q) A [.ref (q 3), .ref (q ta)] (fun z u => r_X5_readBoth SS b ta A z u ∧ IK u ∧ fk [71, 102] [(3, 2), (3, 3), (3, 4), (5, 1), (5, 2), (5, 3), (5, 4), (5, 5), (5, 6), (70, 2), (101, 2)] A u ∧ ((0 ≤ z ∧ z ≤ 1) ∧ (z = 1 → u 3 4 = A 3 4))) := by
  refine k_metz (cc := cX5_readBoth) (maxL := 3) WK_adr (plainFor_of_name (by decide +kernel)) rfl (Nat.le_of_ble_eq_true rfl) (fun z u h => h.2.2.2.1) (fun p e s m below meth c Q AS ls hx hb hml hown hts hK hDD hA0 hE RET H locs hP hS hl => ?_)
  have hown : s.vm.findClass RX5 = some m.cls := hown
  have hl : lv_has ls 3 [(0, .ref (q 3)), (1, .ref (q ta))] := hl
  refine lv_aload_n hx hb (dk_at dkX5_readBoth_0 0 rfl) rfl (lv_at hl 0 rfl) ?_
  refine lv_aload_n hx hb (dk_at dkX5_readBoth_0 1 rfl) rfl (lv_at hl 1 rfl) ?_
  have r1 : (0 : Int) ≤ (A 3 4) ∧ (A 3 4) ≤ 8 := irRD_4 hI
  refine k_calli (As := [.ref (q ta)]) (rest := []) ⟨hx, hb, hml, hown, hts⟩ hE (kc_X5_readFact l dC dI cB cI cJ cZ cQ aL aS q SS b _ ta hI hta (by omega) (by omega) IHt) (cwV 1 hts (goodVk wkq_7_38 wkq_7_39 wkq_7_40 wkq_5_28 wkq_7_41) rfl rfl rfl (by decide +kernel) ⟨by show (10 * (9 - b) + 10) + 1 ≤ 10 * (9 - b) + 11; omega, by show 8 + (5 + 11) + (400 * (9 - b) + 200) ≤ 400 * (9 - b) + 240; omega⟩) hK hDD hA0 hP hS 3 5 (wkRD) rfl rfl hl.1 (Nat.le_of_ble_eq_true rfl) (dk_at dkX5_readBoth_0 2 rfl) (fun z2 A3 H locs hw4 hP hS => ?_)
  have ghw4 : q_X5_readFact SS b ta A z2 A3 := hw4
  obtain ⟨_, hI, hf5, hw4⟩ := hw4
  have r6 : (0 : Int) ≤ (A3 3 4) ∧ (A3 3 4) ≤ 8 := irRD_4 hI
  have rz2 : 0 ≤ z2 ∧ z2 ≤ 1 := hw4.1
  have hw4 := hw4.2
  refine lv_if_ne (tgt := 10) hx hb (dk_at dkX5_readBoth_0 3 rfl) (by decide) (fun c7 => ?_) (fun c7 => ?_)
  · have c7 : ¬ z2 = 0 := mt (i_eq0 (rb rz2 (by decide) (by decide))).mpr c7
    have hw4b := hw4 (by omega)
    clear hw4
    refine lv_iconst (v := iI 0) hx hb (dk_at dkX5_readBoth_0 6 rfl) (by decide +kernel) ?_
    refine lv_istore_n (lv' := [(2, .int (iI 0)), (0, .ref (q 3)), (1, .ref (q ta))]) hx hb (dk_at dkX5_readBoth_0 7 rfl) rfl hl (by decide) rfl (fun ls hl => ?_)
    have L12_11 : ∀ (n15 : Nat) (z8 : Int) (A10 : St) (H : Heap) (locs : List Loc) (ls : Array Slot), (0 ≤ z8 ∧ z8 ≤ 2147483647) → (A10 3 4 = A 3 4) → (∀ (z : Int) (u : St), (∃ mm1 : Nat, (d_X5_readBoth_1 SS b ta z u mm1 z8 A10)) → r_X5_readBoth SS b ta A z u) → ((1601 - z8).toNat = n15) → IK A10 → fk [71, 102] [(3, 2), (3, 3), (3, 4), (5, 1), (5, 2), (5, 3), (5, 4), (5, 5), (5, 6), (70, 2), (101, 2)] A3 A10 → va_P (dC, dI) vwCl (WK cB cI cJ cZ cQ q A10) H → va_S AS s.heap H locs → lv_has ls 3 [(2, .int (iI z8)), (0, .ref (q 3)), (1, .ref (q ta))] → W p l e (headSpec ws_kc_X5_readBoth (rqm 6 b)).room s m [.ref (q 3), .ref (q ta)].toArray below meth c H locs 0 0 Q (F0 m 12 ls []) := by
      intro n15
      induction n15 using Nat.strongRecOn with
      | ind n15 ih12 =>
        intro z8 A10 H locs ls f13 f14 hk1 hn15 hI hj9 hP hS hl
        have gI16 : Hd (IK A10) := Hd.mk hI
        have r17 : (0 : Int) ≤ (A10 3 4) ∧ (A10 3 4) ≤ 8 := irRD_4 hI
        refine lv_iload_n hx hb (dk_at dkX5_readBoth_0 8 rfl) rfl (lv_at hl 0 rfl) ?_
        refine lv_sipush (v := iI 1600) hx hb (dk_at dkX5_readBoth_0 9 rfl) (by decide +kernel) ?_
        refine lv_icmp_ge (tgt := 53) hx hb (dk_at dkX5_readBoth_0 10 rfl) (by decide) (fun c18 => ?_) (fun c18 => ?_)
        · have c18 : 1600 ≤ z8 := (i_le ⟨by decide, by decide⟩ (rb f13 (by decide) (by decide))).mp c18
          refine lv_iconst (v := iI 1) hx hb (dk_at dkX5_readBoth_1 11 rfl) (by decide +kernel) ?_
          exact RET 1 _ _ _ _ _ ⟨hk1 _ _ ⟨0 + 1, (u_d_X5_readBoth_1 ⟨gI16.out, ⟨f13, (Or.inl ⟨c18, ⟨rfl, rfl⟩⟩)⟩⟩)⟩, hI, fk.trans (fk.trans (fk.rf) hf5 rfl rfl) hj9 rfl rfl, by omega⟩ hP hS (dk_at dkX5_readBoth_1 12 rfl)
        · have c18 : ¬ 1600 ≤ z8 := mt (i_le ⟨by decide, by decide⟩ (rb f13 (by decide) (by decide))).mpr c18
          refine lv_aload_n hx hb (dk_at dkX5_readBoth_0 11 rfl) rfl (lv_at hl 1 rfl) ?_
          refine lv_bipush (v := iI 17) hx hb (dk_at dkX5_readBoth_0 12 rfl) (by decide +kernel) ?_
          refine k_calli (As := [.int (iI 17)]) (rest := []) ⟨hx, hb, hml, hown, hts⟩ hE (kc_X5_passesWord l dC dI cB cI cJ cZ cQ aL aS q _ 17 hI ⟨by decide, by decide⟩) (cwV 1 hts (goodVk wkq_6_27 wkq_6_28 wkq_6_29 wkq_5_28 wkq_6_30) rfl rfl rfl (by decide +kernel) ⟨by show (2) + 1 ≤ 10 * (9 - b) + 11; omega, by show 8 + (2 + 11) + (45) ≤ 400 * (9 - b) + 240; omega⟩) hK hDD hA0 hP hS 3 5 (wkRD) rfl rfl hl.1 (Nat.le_of_ble_eq_true rfl) (dk_at dkX5_readBoth_0 13 rfl) (fun z19 A20 H locs hw21 hP hS => ?_)
          have ghw21 : q_X5_passesWord 17 A10 z19 A20 := hw21
          obtain ⟨_, hI, hf22, hw21⟩ := hw21
          refine lv_if_eq (tgt := 53) hx hb (dk_at dkX5_readBoth_0 14 rfl) (by decide) (fun c23 => ?_) (fun c23 => ?_)
          · have c23 : z19 = 0 := (i_eq0 (rb hw21 (by decide) (by decide))).mp c23
            refine lv_iconst (v := iI 1) hx hb (dk_at dkX5_readBoth_1 11 rfl) (by decide +kernel) ?_
            have e24 : A20 3 4 = (A10 3 4) := (hf22 3 4 rfl rfl)
            exact RET 1 _ _ _ _ _ ⟨hk1 _ _ ⟨0 + 1, (u_d_X5_readBoth_1 ⟨gI16.out, ⟨f13, (Or.inr ⟨c18, ⟨z19, A20, ghw21, (Or.inl ⟨c23, ⟨rfl, rfl⟩⟩)⟩⟩)⟩⟩)⟩, hI, fk.trans (fk.trans (fk.trans (fk.rf) hf5 rfl rfl) hj9 rfl rfl) hf22 rfl rfl, by omega⟩ hP hS (dk_at dkX5_readBoth_1 12 rfl)
          · have c23 : ¬ z19 = 0 := mt (i_eq0 (rb hw21 (by decide) (by decide))).mpr c23
            refine lv_aload_n hx hb (dk_at dkX5_readBoth_0 15 rfl) rfl (lv_at hl 1 rfl) ?_
            refine lv_aload_n hx hb (dk_at dkX5_readBoth_1 0 rfl) rfl (lv_at hl 2 rfl) ?_
            have e25 : A20 3 4 = (A10 3 4) := (hf22 3 4 rfl rfl)
            refine k_calli (As := [.ref (q ta)]) (rest := []) ⟨hx, hb, hml, hown, hts⟩ hE (kc_X5_readFact l dC dI cB cI cJ cZ cQ aL aS q SS b _ ta hI hta (by omega) (by omega) IHt) (cwV 1 hts (goodVk wkq_7_38 wkq_7_39 wkq_7_40 wkq_5_28 wkq_7_41) rfl rfl rfl (by decide +kernel) ⟨by show (10 * (9 - b) + 10) + 1 ≤ 10 * (9 - b) + 11; omega, by show 8 + (5 + 11) + (400 * (9 - b) + 200) ≤ 400 * (9 - b) + 240; omega⟩) hK hDD hA0 hP hS 3 5 (wkRD) rfl rfl hl.1 (Nat.le_of_ble_eq_true rfl) (dk_at dkX5_readBoth_1 1 rfl) (fun z26 A27 H locs hw28 hP hS => ?_)
            have ghw28 : q_X5_readFact SS b ta A20 z26 A27 := hw28
            obtain ⟨_, hI, hf29, hw28⟩ := hw28
            have r30 : (0 : Int) ≤ (A27 3 4) ∧ (A27 3 4) ≤ 8 := irRD_4 hI
            have rz26 : 0 ≤ z26 ∧ z26 ≤ 1 := hw28.1
            have hw28 := hw28.2
            refine lv_if_eq (tgt := 45) hx hb (dk_at dkX5_readBoth_1 2 rfl) (by decide) (fun c31 => ?_) (fun c31 => ?_)
            · have c31 : z26 = 0 := (i_eq0 (rb rz26 (by decide) (by decide))).mp c31
              clear hw28
              refine lv_iconst (v := iI 0) hx hb (dk_at dkX5_readBoth_1 7 rfl) (by decide +kernel) ?_
              exact RET 0 _ _ _ _ _ ⟨hk1 _ _ ⟨0 + 1, (u_d_X5_readBoth_1 ⟨gI16.out, ⟨f13, (Or.inr ⟨c18, ⟨z19, A20, ghw21, (Or.inr ⟨c23, ⟨z26, A27, ghw28, (Or.inl ⟨c31, ⟨rfl, rfl⟩⟩)⟩⟩)⟩⟩)⟩⟩)⟩, hI, fk.trans (fk.trans (fk.trans (fk.trans (fk.rf) hf5 rfl rfl) hj9 rfl rfl) hf22 rfl rfl) hf29 rfl rfl, by omega⟩ hP hS (dk_at dkX5_readBoth_1 8 rfl)
            · have c31 : ¬ z26 = 0 := mt (i_eq0 (rb rz26 (by decide) (by decide))).mpr c31
              have hw28b := hw28 (by omega)
              clear hw28
              refine lv_aload_n hx hb (dk_at dkX5_readBoth_1 3 rfl) rfl (lv_at hl 2 rfl) ?_
              refine lv_bipush (v := iI (-8)) hx hb (dk_at dkX5_readBoth_1 4 rfl) (by decide +kernel) ?_
              refine k_calli (As := [.int (iI (-8))]) (rest := []) ⟨hx, hb, hml, hown, hts⟩ hE (kc_X8_add l dC dI cB cI cJ cZ cQ aL aS q _ ta (-8) hI hta ⟨by decide, by decide⟩) (cwV 1 hts (goodVk wkq_7_33 wkq_7_34 wkq_7_35 wkq_1_35 wkq_7_36) rfl rfl rfl (by decide +kernel) ⟨by show (0) + 1 ≤ 10 * (9 - b) + 11; omega, by show 8 + (2 + 11) + (0) ≤ 400 * (9 - b) + 240; omega⟩) hK hDD hA0 hP hS ta 8 (wkE hta) rfl rfl hl.1 (Nat.le_of_ble_eq_true rfl) (dk_at dkX5_readBoth_1 5 rfl) (fun z32 A33 H locs hw34 hP hS => ?_)
              have ghw34 : q_X8_add ta (-8) A27 z32 A33 := hw34
              obtain ⟨_, hI, hf35, hw34⟩ := hw34
              refine lv_if_ne (tgt := 47) hx hb (dk_at dkX5_readBoth_1 6 rfl) (by decide) (fun c36 => ?_) (fun c36 => ?_)
              · have c36 : ¬ z32 = 0 := mt (i_eq0 (rb hw34 (by decide) (by decide))).mpr c36
                refine lv_iinc (v := iI (z8 + 1)) (lv' := [(2, .int (iI (z8 + 1))), (0, .ref (q 3)), (1, .ref (q ta))]) hx hb (dk_at dkX5_readBoth_1 9 rfl) hl (k := 0) rfl (i_inc (by omega)) (by decide) rfl (fun ls hl => ?_)
                refine lv_goto (tgt := 12) hx hb (dk_at dkX5_readBoth_1 10 rfl) (by decide) ?_
                have e37 : A33 3 4 = (A27 3 4) := (hf35 3 4 rfl rfl)
                exact ih12 _ (by omega) (z8 + 1) _ _ _ _ (by omega) (by omega) (fun zq uq ⟨mm1, hq⟩ => hk1 _ _ ⟨mm1 + 1, (u_d_X5_readBoth_1 ⟨gI16.out, ⟨f13, (Or.inr ⟨c18, ⟨z19, A20, ghw21, (Or.inr ⟨c23, ⟨z26, A27, ghw28, (Or.inr ⟨c31, ⟨z32, A33, ghw34, (Or.inl ⟨c36, hq⟩)⟩⟩)⟩⟩)⟩⟩)⟩⟩)⟩) rfl hI (fk.trans (fk.trans (fk.trans (fk.trans (fk.rf) hj9 rfl rfl) hf22 rfl rfl) hf29 rfl rfl) hf35 rfl rfl) hP hS (lv_sub hl [0, 1, 2] rfl)
              · have c36 : z32 = 0 := (i_eq0 (rb hw34 (by decide) (by decide))).mp c36
                refine lv_iconst (v := iI 0) hx hb (dk_at dkX5_readBoth_1 7 rfl) (by decide +kernel) ?_
                have e38 : A33 3 4 = (A27 3 4) := (hf35 3 4 rfl rfl)
                exact RET 0 _ _ _ _ _ ⟨hk1 _ _ ⟨0 + 1, (u_d_X5_readBoth_1 ⟨gI16.out, ⟨f13, (Or.inr ⟨c18, ⟨z19, A20, ghw21, (Or.inr ⟨c23, ⟨z26, A27, ghw28, (Or.inr ⟨c31, ⟨z32, A33, ghw34, (Or.inr ⟨c36, ⟨rfl, rfl⟩⟩)⟩⟩)⟩⟩)⟩⟩)⟩⟩)⟩, hI, fk.trans (fk.trans (fk.trans (fk.trans (fk.trans (fk.rf) hf5 rfl rfl) hj9 rfl rfl) hf22 rfl rfl) hf29 rfl rfl) hf35 rfl rfl, by omega⟩ hP hS (dk_at dkX5_readBoth_1 8 rfl)
    exact L12_11 _ 0 _ _ _ _ (by omega) (by omega) (fun zq uq ⟨mm1, hq⟩ => (u_r_X5_readBoth ⟨z2, A3, ghw4, (Or.inl ⟨c7, ⟨mm1, hq⟩⟩)⟩)) rfl hI (fk.rf) hP hS (lv_sub hl [0, 1, 2] rfl)
  · have c7 : z2 = 0 := (i_eq0 (rb rz2 (by decide) (by decide))).mp c7
    clear hw4
    refine lv_iconst (v := iI 0) hx hb (dk_at dkX5_readBoth_0 4 rfl) (by decide +kernel) ?_
    exact RET 0 _ _ _ _ _ ⟨(u_r_X5_readBoth ⟨z2, A3, ghw4, (Or.inr ⟨c7, ⟨rfl, rfl⟩⟩)⟩), hI, fk.trans (fk.rf) hf5 rfl rfl, by omega⟩ hP hS (dk_at dkX5_readBoth_0 5 rfl)

abbrev tr_d_X5_readTest_1 (SS : St → Int → St → Prop) (b : Nat) (ta : Nat) (z : Int) (u : St) (K1 : Int → St → Prop) (z8 : Int) (A10 : St) : Prop := ((IK A10) ∧ ((0 ≤ z8 ∧ z8 ≤ 2147483647) ∧ (((1600 ≤ z8) ∧ (z = 1 ∧ u = A10)) ∨ ((¬ 1600 ≤ z8) ∧ (∃ z19 : Int, ∃ A20 : St, q_X5_passesWord 16 A10 z19 A20 ∧ (((z19 = 0) ∧ (z = 1 ∧ u = A20)) ∨ ((¬ z19 = 0) ∧ (∃ z26 : Int, ∃ A27 : St, q_X5_readBoth SS b ta A20 z26 A27 ∧ (((z26 = 0) ∧ (z = 0 ∧ u = A27)) ∨ ((¬ z26 = 0) ∧ (∃ z32 : Int, ∃ A33 : St, q_X8_add ta (-7) A27 z32 A33 ∧ (((¬ z32 = 0) ∧ (K1 (z8 + 1) A33)) ∨ ((z32 = 0) ∧ (z = 0 ∧ u = A33))))))))))))))
def d_X5_readTest_1 (SS : St → Int → St → Prop) (b : Nat) (ta : Nat) (z : Int) (u : St) : Nat → Int → St → Prop
  | 0, _, _ => False
  | nn9 + 1, z8, A10 => tr_d_X5_readTest_1 SS b ta z u (fun z8 A10 => d_X5_readTest_1 SS b ta z u nn9 z8 A10) z8 A10
theorem u_d_X5_readTest_1 {SS : St → Int → St → Prop} {b : Nat} {ta : Nat} {z : Int} {u : St} {nn9 : Nat} {z8 : Int} {A10 : St} (h : tr_d_X5_readTest_1 SS b ta z u (fun z8 A10 => d_X5_readTest_1 SS b ta z u nn9 z8 A10) z8 A10) : d_X5_readTest_1 SS b ta z u (nn9 + 1) z8 A10 := h
abbrev tr_r_X5_readTest (SS : St → Int → St → Prop) (b : Nat) (ta : Nat) (A : St) (z : Int) (u : St) : Prop := (∃ z2 : Int, ∃ A3 : St, q_X5_readBoth SS b ta A z2 A3 ∧ (((¬ z2 = 0) ∧ (∃ nn9 : Nat, d_X5_readTest_1 SS b ta z u nn9 0 A3)) ∨ ((z2 = 0) ∧ (z = 0 ∧ u = A3))))
def r_X5_readTest (SS : St → Int → St → Prop) (b : Nat) (ta : Nat) (A : St) (z : Int) (u : St) : Prop := tr_r_X5_readTest SS b ta A z u
theorem u_r_X5_readTest {SS : St → Int → St → Prop} {b : Nat} {ta : Nat} {A : St} {z : Int} {u : St} (h : tr_r_X5_readTest SS b ta A z u) : r_X5_readTest SS b ta A z u := h
set_option maxHeartbeats 4000000 in
set_option maxRecDepth 100000 in
theorem kc_X5_readTest (l : Launch) (dC : Nat → ClassId) (dI : Nat → Nat → Nat) (cB cI cJ cZ cQ : ClassId) (aL aS : Nat) (q : Nat → Nat) (SS : St → Int → St → Prop) (b : Nat) (A : St) (ta : Nat) (hI : IK A) (hta : isE ta) (hp0 : A 3 4 = (b : Int)) (hp1 : b ≤ 8) (IHt : ∀ A : St, IK A → A 3 4 = (b : Int) + 1 → b + 1 ≤ 8 → KMi l yX5_readTest ws_kc_X5_readTest (rqm 7 (b + 1)) aL aS (dC, dI) (tyA cB cI cJ cZ cQ) (WK cB cI cJ cZ cQ q) A [.ref (q 3), .ref (q ta)] (fun z u => SS A z u ∧ IK u ∧ fk [71, 102] [(3, 2), (3, 3), (3, 4), (5, 1), (5, 2), (5, 3), (5, 4), (5, 5), (5, 6), (70, 2), (101, 2)] A u ∧ ((0 ≤ z ∧ z ≤ 1) ∧ (z = 1 → u 3 4 = A 3 4)))) : KMi l yX5_readTest ws_kc_X5_readTest (rqm 7 b) aL aS (dC, dI) (tyA cB cI cJ cZ cQ) (WK cB cI cJ cZ cQ q) A [.ref (q 3), .ref (q ta)] (fun z u => r_X5_readTest SS b ta A z u ∧ IK u ∧ fk [71, 102] [(3, 2), (3, 3), (3, 4), (5, 1), (5, 2), (5, 3), (5, 4), (5, 5), (5, 6), (70, 2), (101, 2)] A u ∧ ((0 ≤ z ∧ z ≤ 1) ∧ (z = 1 → u 3 4 = A 3 4))) := by
  refine k_metz (cc := cX5_readTest) (maxL := 3) WK_adr (plainFor_of_name (by decide +kernel)) rfl (Nat.le_of_ble_eq_true rfl) (fun z u h => h.2.2.2.1) (fun p e s m below meth c Q AS ls hx hb hml hown hts hK hDD hA0 hE RET H locs hP hS hl => ?_)
  have hown : s.vm.findClass RX5 = some m.cls := hown
  have hl : lv_has ls 3 [(0, .ref (q 3)), (1, .ref (q ta))] := hl
  refine lv_aload_n hx hb (dk_at dkX5_readTest_0 0 rfl) rfl (lv_at hl 0 rfl) ?_
  refine lv_aload_n hx hb (dk_at dkX5_readTest_0 1 rfl) rfl (lv_at hl 1 rfl) ?_
  have r1 : (0 : Int) ≤ (A 3 4) ∧ (A 3 4) ≤ 8 := irRD_4 hI
  refine k_calli (As := [.ref (q ta)]) (rest := []) ⟨hx, hb, hml, hown, hts⟩ hE (kc_X5_readBoth l dC dI cB cI cJ cZ cQ aL aS q SS b _ ta hI hta (by omega) (by omega) IHt) (cwV 1 hts (goodVk wkq_7_30 wkq_7_31 wkq_7_32 wkq_5_28 wkq_7_37) rfl rfl rfl (by decide +kernel) ⟨by show (10 * (9 - b) + 11) + 1 ≤ 10 * (9 - b) + 12; omega, by show 8 + (3 + 11) + (400 * (9 - b) + 240) ≤ 400 * (9 - b) + 280; omega⟩) hK hDD hA0 hP hS 3 5 (wkRD) rfl rfl hl.1 (Nat.le_of_ble_eq_true rfl) (dk_at dkX5_readTest_0 2 rfl) (fun z2 A3 H locs hw4 hP hS => ?_)
  have ghw4 : q_X5_readBoth SS b ta A z2 A3 := hw4
  obtain ⟨_, hI, hf5, hw4⟩ := hw4
  have r6 : (0 : Int) ≤ (A3 3 4) ∧ (A3 3 4) ≤ 8 := irRD_4 hI
  have rz2 : 0 ≤ z2 ∧ z2 ≤ 1 := hw4.1
  have hw4 := hw4.2
  refine lv_if_ne (tgt := 10) hx hb (dk_at dkX5_readTest_0 3 rfl) (by decide) (fun c7 => ?_) (fun c7 => ?_)
  · have c7 : ¬ z2 = 0 := mt (i_eq0 (rb rz2 (by decide) (by decide))).mpr c7
    have hw4b := hw4 (by omega)
    clear hw4
    refine lv_iconst (v := iI 0) hx hb (dk_at dkX5_readTest_0 6 rfl) (by decide +kernel) ?_
    refine lv_istore_n (lv' := [(2, .int (iI 0)), (0, .ref (q 3)), (1, .ref (q ta))]) hx hb (dk_at dkX5_readTest_0 7 rfl) rfl hl (by decide) rfl (fun ls hl => ?_)
    have L12_11 : ∀ (n15 : Nat) (z8 : Int) (A10 : St) (H : Heap) (locs : List Loc) (ls : Array Slot), (0 ≤ z8 ∧ z8 ≤ 2147483647) → (A10 3 4 = A 3 4) → (∀ (z : Int) (u : St), (∃ mm1 : Nat, (d_X5_readTest_1 SS b ta z u mm1 z8 A10)) → r_X5_readTest SS b ta A z u) → ((1601 - z8).toNat = n15) → IK A10 → fk [71, 102] [(3, 2), (3, 3), (3, 4), (5, 1), (5, 2), (5, 3), (5, 4), (5, 5), (5, 6), (70, 2), (101, 2)] A3 A10 → va_P (dC, dI) vwCl (WK cB cI cJ cZ cQ q A10) H → va_S AS s.heap H locs → lv_has ls 3 [(2, .int (iI z8)), (0, .ref (q 3)), (1, .ref (q ta))] → W p l e (headSpec ws_kc_X5_readTest (rqm 7 b)).room s m [.ref (q 3), .ref (q ta)].toArray below meth c H locs 0 0 Q (F0 m 12 ls []) := by
      intro n15
      induction n15 using Nat.strongRecOn with
      | ind n15 ih12 =>
        intro z8 A10 H locs ls f13 f14 hk1 hn15 hI hj9 hP hS hl
        have gI16 : Hd (IK A10) := Hd.mk hI
        have r17 : (0 : Int) ≤ (A10 3 4) ∧ (A10 3 4) ≤ 8 := irRD_4 hI
        refine lv_iload_n hx hb (dk_at dkX5_readTest_0 8 rfl) rfl (lv_at hl 0 rfl) ?_
        refine lv_sipush (v := iI 1600) hx hb (dk_at dkX5_readTest_0 9 rfl) (by decide +kernel) ?_
        refine lv_icmp_ge (tgt := 53) hx hb (dk_at dkX5_readTest_0 10 rfl) (by decide) (fun c18 => ?_) (fun c18 => ?_)
        · have c18 : 1600 ≤ z8 := (i_le ⟨by decide, by decide⟩ (rb f13 (by decide) (by decide))).mp c18
          refine lv_iconst (v := iI 1) hx hb (dk_at dkX5_readTest_1 11 rfl) (by decide +kernel) ?_
          exact RET 1 _ _ _ _ _ ⟨hk1 _ _ ⟨0 + 1, (u_d_X5_readTest_1 ⟨gI16.out, ⟨f13, (Or.inl ⟨c18, ⟨rfl, rfl⟩⟩)⟩⟩)⟩, hI, fk.trans (fk.trans (fk.rf) hf5 rfl rfl) hj9 rfl rfl, by omega⟩ hP hS (dk_at dkX5_readTest_1 12 rfl)
        · have c18 : ¬ 1600 ≤ z8 := mt (i_le ⟨by decide, by decide⟩ (rb f13 (by decide) (by decide))).mpr c18
          refine lv_aload_n hx hb (dk_at dkX5_readTest_0 11 rfl) rfl (lv_at hl 1 rfl) ?_
          refine lv_bipush (v := iI 16) hx hb (dk_at dkX5_readTest_0 12 rfl) (by decide +kernel) ?_
          refine k_calli (As := [.int (iI 16)]) (rest := []) ⟨hx, hb, hml, hown, hts⟩ hE (kc_X5_passesWord l dC dI cB cI cJ cZ cQ aL aS q _ 16 hI ⟨by decide, by decide⟩) (cwV 1 hts (goodVk wkq_6_27 wkq_6_28 wkq_6_29 wkq_5_28 wkq_6_30) rfl rfl rfl (by decide +kernel) ⟨by show (2) + 1 ≤ 10 * (9 - b) + 12; omega, by show 8 + (2 + 11) + (45) ≤ 400 * (9 - b) + 280; omega⟩) hK hDD hA0 hP hS 3 5 (wkRD) rfl rfl hl.1 (Nat.le_of_ble_eq_true rfl) (dk_at dkX5_readTest_0 13 rfl) (fun z19 A20 H locs hw21 hP hS => ?_)
          have ghw21 : q_X5_passesWord 16 A10 z19 A20 := hw21
          obtain ⟨_, hI, hf22, hw21⟩ := hw21
          refine lv_if_eq (tgt := 53) hx hb (dk_at dkX5_readTest_0 14 rfl) (by decide) (fun c23 => ?_) (fun c23 => ?_)
          · have c23 : z19 = 0 := (i_eq0 (rb hw21 (by decide) (by decide))).mp c23
            refine lv_iconst (v := iI 1) hx hb (dk_at dkX5_readTest_1 11 rfl) (by decide +kernel) ?_
            have e24 : A20 3 4 = (A10 3 4) := (hf22 3 4 rfl rfl)
            exact RET 1 _ _ _ _ _ ⟨hk1 _ _ ⟨0 + 1, (u_d_X5_readTest_1 ⟨gI16.out, ⟨f13, (Or.inr ⟨c18, ⟨z19, A20, ghw21, (Or.inl ⟨c23, ⟨rfl, rfl⟩⟩)⟩⟩)⟩⟩)⟩, hI, fk.trans (fk.trans (fk.trans (fk.rf) hf5 rfl rfl) hj9 rfl rfl) hf22 rfl rfl, by omega⟩ hP hS (dk_at dkX5_readTest_1 12 rfl)
          · have c23 : ¬ z19 = 0 := mt (i_eq0 (rb hw21 (by decide) (by decide))).mpr c23
            refine lv_aload_n hx hb (dk_at dkX5_readTest_0 15 rfl) rfl (lv_at hl 1 rfl) ?_
            refine lv_aload_n hx hb (dk_at dkX5_readTest_1 0 rfl) rfl (lv_at hl 2 rfl) ?_
            have e25 : A20 3 4 = (A10 3 4) := (hf22 3 4 rfl rfl)
            refine k_calli (As := [.ref (q ta)]) (rest := []) ⟨hx, hb, hml, hown, hts⟩ hE (kc_X5_readBoth l dC dI cB cI cJ cZ cQ aL aS q SS b _ ta hI hta (by omega) (by omega) IHt) (cwV 1 hts (goodVk wkq_7_30 wkq_7_31 wkq_7_32 wkq_5_28 wkq_7_37) rfl rfl rfl (by decide +kernel) ⟨by show (10 * (9 - b) + 11) + 1 ≤ 10 * (9 - b) + 12; omega, by show 8 + (3 + 11) + (400 * (9 - b) + 240) ≤ 400 * (9 - b) + 280; omega⟩) hK hDD hA0 hP hS 3 5 (wkRD) rfl rfl hl.1 (Nat.le_of_ble_eq_true rfl) (dk_at dkX5_readTest_1 1 rfl) (fun z26 A27 H locs hw28 hP hS => ?_)
            have ghw28 : q_X5_readBoth SS b ta A20 z26 A27 := hw28
            obtain ⟨_, hI, hf29, hw28⟩ := hw28
            have r30 : (0 : Int) ≤ (A27 3 4) ∧ (A27 3 4) ≤ 8 := irRD_4 hI
            have rz26 : 0 ≤ z26 ∧ z26 ≤ 1 := hw28.1
            have hw28 := hw28.2
            refine lv_if_eq (tgt := 45) hx hb (dk_at dkX5_readTest_1 2 rfl) (by decide) (fun c31 => ?_) (fun c31 => ?_)
            · have c31 : z26 = 0 := (i_eq0 (rb rz26 (by decide) (by decide))).mp c31
              clear hw28
              refine lv_iconst (v := iI 0) hx hb (dk_at dkX5_readTest_1 7 rfl) (by decide +kernel) ?_
              exact RET 0 _ _ _ _ _ ⟨hk1 _ _ ⟨0 + 1, (u_d_X5_readTest_1 ⟨gI16.out, ⟨f13, (Or.inr ⟨c18, ⟨z19, A20, ghw21, (Or.inr ⟨c23, ⟨z26, A27, ghw28, (Or.inl ⟨c31, ⟨rfl, rfl⟩⟩)⟩⟩)⟩⟩)⟩⟩)⟩, hI, fk.trans (fk.trans (fk.trans (fk.trans (fk.rf) hf5 rfl rfl) hj9 rfl rfl) hf22 rfl rfl) hf29 rfl rfl, by omega⟩ hP hS (dk_at dkX5_readTest_1 8 rfl)
            · have c31 : ¬ z26 = 0 := mt (i_eq0 (rb rz26 (by decide) (by decide))).mpr c31
              have hw28b := hw28 (by omega)
              clear hw28
              refine lv_aload_n hx hb (dk_at dkX5_readTest_1 3 rfl) rfl (lv_at hl 2 rfl) ?_
              refine lv_bipush (v := iI (-7)) hx hb (dk_at dkX5_readTest_1 4 rfl) (by decide +kernel) ?_
              refine k_calli (As := [.int (iI (-7))]) (rest := []) ⟨hx, hb, hml, hown, hts⟩ hE (kc_X8_add l dC dI cB cI cJ cZ cQ aL aS q _ ta (-7) hI hta ⟨by decide, by decide⟩) (cwV 1 hts (goodVk wkq_7_33 wkq_7_34 wkq_7_35 wkq_1_35 wkq_7_36) rfl rfl rfl (by decide +kernel) ⟨by show (0) + 1 ≤ 10 * (9 - b) + 12; omega, by show 8 + (2 + 11) + (0) ≤ 400 * (9 - b) + 280; omega⟩) hK hDD hA0 hP hS ta 8 (wkE hta) rfl rfl hl.1 (Nat.le_of_ble_eq_true rfl) (dk_at dkX5_readTest_1 5 rfl) (fun z32 A33 H locs hw34 hP hS => ?_)
              have ghw34 : q_X8_add ta (-7) A27 z32 A33 := hw34
              obtain ⟨_, hI, hf35, hw34⟩ := hw34
              refine lv_if_ne (tgt := 47) hx hb (dk_at dkX5_readTest_1 6 rfl) (by decide) (fun c36 => ?_) (fun c36 => ?_)
              · have c36 : ¬ z32 = 0 := mt (i_eq0 (rb hw34 (by decide) (by decide))).mpr c36
                refine lv_iinc (v := iI (z8 + 1)) (lv' := [(2, .int (iI (z8 + 1))), (0, .ref (q 3)), (1, .ref (q ta))]) hx hb (dk_at dkX5_readTest_1 9 rfl) hl (k := 0) rfl (i_inc (by omega)) (by decide) rfl (fun ls hl => ?_)
                refine lv_goto (tgt := 12) hx hb (dk_at dkX5_readTest_1 10 rfl) (by decide) ?_
                have e37 : A33 3 4 = (A27 3 4) := (hf35 3 4 rfl rfl)
                exact ih12 _ (by omega) (z8 + 1) _ _ _ _ (by omega) (by omega) (fun zq uq ⟨mm1, hq⟩ => hk1 _ _ ⟨mm1 + 1, (u_d_X5_readTest_1 ⟨gI16.out, ⟨f13, (Or.inr ⟨c18, ⟨z19, A20, ghw21, (Or.inr ⟨c23, ⟨z26, A27, ghw28, (Or.inr ⟨c31, ⟨z32, A33, ghw34, (Or.inl ⟨c36, hq⟩)⟩⟩)⟩⟩)⟩⟩)⟩⟩)⟩) rfl hI (fk.trans (fk.trans (fk.trans (fk.trans (fk.rf) hj9 rfl rfl) hf22 rfl rfl) hf29 rfl rfl) hf35 rfl rfl) hP hS (lv_sub hl [0, 1, 2] rfl)
              · have c36 : z32 = 0 := (i_eq0 (rb hw34 (by decide) (by decide))).mp c36
                refine lv_iconst (v := iI 0) hx hb (dk_at dkX5_readTest_1 7 rfl) (by decide +kernel) ?_
                have e38 : A33 3 4 = (A27 3 4) := (hf35 3 4 rfl rfl)
                exact RET 0 _ _ _ _ _ ⟨hk1 _ _ ⟨0 + 1, (u_d_X5_readTest_1 ⟨gI16.out, ⟨f13, (Or.inr ⟨c18, ⟨z19, A20, ghw21, (Or.inr ⟨c23, ⟨z26, A27, ghw28, (Or.inr ⟨c31, ⟨z32, A33, ghw34, (Or.inr ⟨c36, ⟨rfl, rfl⟩⟩)⟩⟩)⟩⟩)⟩⟩)⟩⟩)⟩, hI, fk.trans (fk.trans (fk.trans (fk.trans (fk.trans (fk.rf) hf5 rfl rfl) hj9 rfl rfl) hf22 rfl rfl) hf29 rfl rfl) hf35 rfl rfl, by omega⟩ hP hS (dk_at dkX5_readTest_1 8 rfl)
    exact L12_11 _ 0 _ _ _ _ (by omega) (by omega) (fun zq uq ⟨mm1, hq⟩ => (u_r_X5_readTest ⟨z2, A3, ghw4, (Or.inl ⟨c7, ⟨mm1, hq⟩⟩)⟩)) rfl hI (fk.rf) hP hS (lv_sub hl [0, 1, 2] rfl)
  · have c7 : z2 = 0 := (i_eq0 (rb rz2 (by decide) (by decide))).mp c7
    clear hw4
    refine lv_iconst (v := iI 0) hx hb (dk_at dkX5_readTest_0 4 rfl) (by decide +kernel) ?_
    exact RET 0 _ _ _ _ _ ⟨(u_r_X5_readTest ⟨z2, A3, ghw4, (Or.inr ⟨c7, ⟨rfl, rfl⟩⟩)⟩), hI, fk.trans (fk.rf) hf5 rfl rfl, by omega⟩ hP hS (dk_at dkX5_readTest_0 5 rfl)

def rq_test (ta : Nat) : Nat → St → Int → St → Prop
  | 0 => r_X5_readTest (fun _ _ _ => False) (8 - 0) ta
  | n + 1 => r_X5_readTest (rq_test ta n) (8 - (n + 1)) ta
theorem kq_test (l : Launch) (dC : Nat → ClassId) (dI : Nat → Nat → Nat) (cB cI cJ cZ cQ : ClassId) (aL aS : Nat) (q : Nat → Nat) (ta : Nat) (hta : isE ta) : ∀ n b : Nat, 8 - b = n → b ≤ 8 → ∀ A : St, IK A → A 3 4 = (b : Int) → KMi l yX5_readTest ws_kc_X5_readTest (rqm 7 b) aL aS (dC, dI) (tyA cB cI cJ cZ cQ) (WK cB cI cJ cZ cQ q) A [.ref (q 3), .ref (q ta)] (fun z u => rq_test ta n A z u ∧ IK u ∧ fk [71, 102] [(3, 2), (3, 3), (3, 4), (5, 1), (5, 2), (5, 3), (5, 4), (5, 5), (5, 6), (70, 2), (101, 2)] A u ∧ ((0 ≤ z ∧ z ≤ 1) ∧ (z = 1 → u 3 4 = A 3 4))) := by
  intro n
  induction n with
  | zero =>
    intro b hb hb8 A hI h
    obtain rfl : b = 8 - 0 := by omega
    exact kc_X5_readTest l dC dI cB cI cJ cZ cQ aL aS q (fun _ _ _ => False) (8 - 0) A ta hI hta h hb8 (fun A hI h h8 => absurd h8 (by omega))
  | succ n ih =>
    intro b hb hb8 A hI h
    obtain rfl : b = 8 - (n + 1) := by omega
    exact kc_X5_readTest l dC dI cB cI cJ cZ cQ aL aS q (rq_test ta n) (8 - (n + 1)) A ta hI hta h hb8 (fun A hI h h8 => ih (8 - (n + 1) + 1) (by omega) h8 A hI (by omega))
theorem dkX5_readWants_0 : dkq cX5_readWants [(0, .aload_n 0, 1), (1, .aload_n 1, 1), (2, .iconst 3, 1), (3, .invokevirtual 128, 3), (6, .istore_n 2, 1), (7, .iload_n 2, 1), (8, .iconst (-1), 1), (9, .if_icmp .ne 5, 3), (12, .iconst 0, 1), (13, .ireturn, 1), (14, .aload_n 1, 1), (15, .getfield 159, 3), (18, .iload_n 2, 1), (19, .iaload, 1), (20, .invokestatic 162, 3), (23, .iconst 2, 1)] = true := by decide +kernel
theorem dkX5_readWants_1 : dkq cX5_readWants [(24, .if_icmp .lt 9, 3), (27, .aload_n 0, 1), (28, .iconst 3, 1), (29, .invokevirtual 132, 3), (32, .ireturn, 1), (33, .aload_n 0, 1), (34, .aload_n 1, 1), (35, .iconst 4, 1), (36, .invokevirtual 128, 3), (39, .istore_n 3, 1), (40, .iload_n 3, 1), (41, .iconst (-1), 1), (42, .if_icmp .ne 5, 3), (45, .iconst 0, 1), (46, .ireturn, 1), (47, .aload_n 1, 1)] = true := by decide +kernel
theorem dkX5_readWants_2 : dkq cX5_readWants [(48, .getfield 159, 3), (51, .iload_n 2, 1), (52, .iaload, 1), (53, .iload_n 3, 1), (54, .ishr, 1), (55, .iconst 1, 1), (56, .iand, 1), (57, .ifCond .eq 9, 3), (60, .aload_n 0, 1), (61, .iconst 3, 1), (62, .invokevirtual 132, 3), (65, .ireturn, 1), (66, .aload_n 1, 1), (67, .getfield 159, 3), (70, .iload_n 2, 1), (71, .dup2, 1)] = true := by decide +kernel
theorem dkX5_readWants_3 : dkq cX5_readWants [(72, .iaload, 1), (73, .iconst 1, 1), (74, .iload_n 3, 1), (75, .ishl, 1), (76, .ior, 1), (77, .iastore, 1), (78, .aload_n 1, 1), (79, .getfield 115, 3), (82, .iconst 5, 1), (83, .dup2, 1), (84, .iaload, 1), (85, .iconst 1, 1), (86, .iadd, 1), (87, .iastore, 1), (88, .iconst 1, 1), (89, .ireturn, 1)] = true := by decide +kernel
theorem dkX5_readMust_0 : dkq cX5_readMust [(0, .aload_n 0, 1), (1, .aload_n 1, 1), (2, .iconst 1, 1), (3, .invokevirtual 128, 3), (6, .istore_n 2, 1), (7, .iload_n 2, 1), (8, .iconst (-1), 1), (9, .if_icmp .ne 7, 3), (12, .iconst (-1), 1), (13, .goto 11, 3), (16, .aload_n 0, 1), (17, .iconst 0, 1), (18, .sipush 1439, 3), (21, .invokevirtual 136, 3), (24, .istore_n 3, 1), (25, .iload_n 3, 1)] = true := by decide +kernel
theorem dkX5_readMust_1 : dkq cX5_readMust [(26, .iconst (-1), 1), (27, .if_icmp .ne 7, 3), (30, .iconst (-1), 1), (31, .goto 11, 3), (34, .aload_n 0, 1), (35, .iload_n 3, 1), (36, .sipush 1439, 3), (39, .invokevirtual 136, 3), (42, .istore 4, 2), (44, .iload 4, 2), (46, .iconst (-1), 1), (47, .if_icmp .eq 18, 3), (50, .aload_n 1, 1), (51, .iload_n 2, 1), (52, .iload_n 3, 1), (53, .iload 4, 2)] = true := by decide +kernel
theorem dkX5_readMust_2 : dkq cX5_readMust [(55, .invokevirtual 167, 3), (58, .ifCond .eq 7, 3), (61, .iconst 1, 1), (62, .goto 4, 3), (65, .iconst 0, 1), (66, .ireturn, 1)] = true := by decide +kernel
theorem dkX5_readBar_0 : dkq cX5_readBar [(0, .aload_n 0, 1), (1, .aload_n 1, 1), (2, .iconst 1, 1), (3, .invokevirtual 128, 3), (6, .istore_n 2, 1), (7, .iload_n 2, 1), (8, .iconst (-1), 1), (9, .if_icmp .ne 5, 3), (12, .iconst 0, 1), (13, .ireturn, 1), (14, .aload_n 1, 1), (15, .iload_n 2, 1), (16, .invokevirtual 171, 3), (19, .ifCond .eq 9, 3), (22, .aload_n 0, 1), (23, .iconst 3, 1)] = true := by decide +kernel
theorem dkX5_readBar_1 : dkq cX5_readBar [(24, .invokevirtual 132, 3), (27, .ireturn, 1), (28, .aload_n 1, 1), (29, .getfield 174, 3), (32, .getfield 178, 3), (35, .istore_n 3, 1), (36, .aload_n 0, 1), (37, .iconst 0, 1), (38, .putfield 22, 3), (41, .aload_n 0, 1), (42, .bipush 15, 2), (44, .invokevirtual 144, 3), (47, .ifCond .eq 34, 3), (50, .aload_n 0, 1), (51, .aload_n 1, 1), (52, .getfield 174, 3)] = true := by decide +kernel
theorem dkX5_readBar_2 : dkq cX5_readBar [(55, .invokevirtual 183, 3), (58, .ifCond .eq 23, 3), (61, .aload_n 1, 1), (62, .iload_n 2, 1), (63, .iload_n 3, 1), (64, .aload_n 1, 1), (65, .getfield 174, 3), (68, .getfield 178, 3), (71, .invokevirtual 187, 3), (74, .ifCond .eq 7, 3), (77, .iconst 1, 1), (78, .goto 4, 3), (81, .iconst 0, 1), (82, .ireturn, 1)] = true := by decide +kernel
theorem dkX5_newName_0 : dkq cX5_newName [(0, .aload_n 0, 1), (1, .invokevirtual 244, 3), (4, .ifCond .ne 9, 3), (7, .aload_n 0, 1), (8, .iconst 1, 1), (9, .invokevirtual 121, 3), (12, .ireturn, 1), (13, .aload_n 0, 1), (14, .getfield 30, 3), (17, .invokevirtual 125, 3), (20, .iconst 0, 1), (21, .istore_n 2, 1), (22, .iload_n 2, 1), (23, .iconst 5, 1), (24, .if_icmp .ge 31, 3), (27, .aload_n 1, 1)] = true := by decide +kernel
theorem dkX5_newName_1 : dkq cX5_newName [(28, .iload_n 2, 1), (29, .aload_n 0, 1), (30, .getfield 30, 3), (33, .getfield 112, 3), (36, .invokevirtual 247, 3), (39, .iconst (-1), 1), (40, .if_icmp .eq 9, 3), (43, .aload_n 0, 1), (44, .iconst 2, 1), (45, .invokevirtual 121, 3), (48, .ireturn, 1), (49, .iinc 2 1, 3), (52, .goto (-30), 3), (55, .aload_n 0, 1), (56, .getfield 30, 3), (59, .getfield 112, 3)] = true := by decide +kernel
theorem dkX5_newName_2 : dkq cX5_newName [(62, .ireturn, 1)] = true := by decide +kernel
theorem dkX5_askedSpot_0 : dkq cX5_askedSpot [(0, .aload_n 0, 1), (1, .invokevirtual 244, 3), (4, .ifCond .ne 9, 3), (7, .aload_n 0, 1), (8, .iconst 1, 1), (9, .invokevirtual 121, 3), (12, .ireturn, 1), (13, .aload_n 0, 1), (14, .getfield 30, 3), (17, .invokevirtual 125, 3), (20, .aload_n 1, 1), (21, .iconst 0, 1), (22, .aload_n 0, 1), (23, .getfield 30, 3), (26, .getfield 112, 3), (29, .invokevirtual 247, 3)] = true := by decide +kernel
theorem dkX5_askedSpot_1 : dkq cX5_askedSpot [(32, .istore_n 2, 1), (33, .iload_n 2, 1), (34, .iconst (-1), 1), (35, .if_icmp .eq 8, 3), (38, .bipush 10, 2), (40, .iload_n 2, 1), (41, .iadd, 1), (42, .ireturn, 1), (43, .aload_n 1, 1), (44, .iconst 1, 1), (45, .aload_n 0, 1), (46, .getfield 30, 3), (49, .getfield 112, 3), (52, .invokevirtual 247, 3), (55, .istore_n 3, 1), (56, .iload_n 3, 1)] = true := by decide +kernel
theorem dkX5_askedSpot_2 : dkq cX5_askedSpot [(57, .iconst (-1), 1), (58, .if_icmp .eq 18, 3), (61, .aload_n 1, 1), (62, .iload_n 3, 1), (63, .invokevirtual 171, 3), (66, .ifCond .eq 10, 3), (69, .bipush 20, 2), (71, .iload_n 3, 1), (72, .iadd, 1), (73, .goto 8, 3), (76, .aload_n 0, 1), (77, .iconst 3, 1), (78, .invokevirtual 121, 3), (81, .ireturn, 1)] = true := by decide +kernel
theorem dkX5_number_0 : dkq cX5_number [(0, .aload_n 0, 1), (1, .getfield 30, 3), (4, .invokevirtual 54, 3), (7, .aload_n 0, 1), (8, .getfield 30, 3), (11, .getfield 57, 3), (14, .iconst 2, 1), (15, .if_icmp .eq 9, 3), (18, .aload_n 0, 1), (19, .iconst 1, 1), (20, .invokevirtual 121, 3), (23, .ireturn, 1), (24, .aload_n 0, 1), (25, .getfield 30, 3), (28, .invokevirtual 125, 3), (31, .aload_n 0, 1)] = true := by decide +kernel
theorem dkX5_number_1 : dkq cX5_number [(32, .getfield 30, 3), (35, .getfield 112, 3), (38, .iload_n 1, 1), (39, .if_icmp .lt 14, 3), (42, .aload_n 0, 1), (43, .getfield 30, 3), (46, .getfield 112, 3), (49, .iload_n 2, 1), (50, .if_icmp .le 11, 3), (53, .aload_n 0, 1), (54, .iconst 4, 1), (55, .invokevirtual 121, 3), (58, .goto 10, 3), (61, .aload_n 0, 1), (62, .getfield 30, 3), (65, .getfield 112, 3)] = true := by decide +kernel
theorem dkX5_number_2 : dkq cX5_number [(68, .ireturn, 1)] = true := by decide +kernel
theorem dkX9_add_0 : dkq cX9_add [(0, .iload_n 2, 1), (1, .iconst (-1), 1), (2, .if_icmp .eq 26, 3), (5, .iload_n 1, 1), (6, .ifCond .lt 22, 3), (9, .iload_n 1, 1), (10, .iconst 5, 1), (11, .if_icmp .ge 17, 3), (14, .aload_n 0, 1), (15, .getfield 9, 3), (18, .iload_n 1, 1), (19, .iaload, 1), (20, .getstatic 77, 3), (23, .iload_n 1, 1), (24, .iaload, 1), (25, .if_icmp .lt 5, 3)] = true := by decide +kernel
theorem dkX9_add_1 : dkq cX9_add [(28, .iconst 0, 1), (29, .ireturn, 1), (30, .aload_n 0, 1), (31, .getfield 17, 3), (34, .iload_n 1, 1), (35, .aaload, 1), (36, .aload_n 0, 1), (37, .getfield 9, 3), (40, .iload_n 1, 1), (41, .iaload, 1), (42, .iload_n 2, 1), (43, .iastore, 1), (44, .aload_n 0, 1), (45, .getfield 9, 3), (48, .iload_n 1, 1), (49, .dup2, 1)] = true := by decide +kernel
theorem dkX9_add_2 : dkq cX9_add [(50, .iaload, 1), (51, .iconst 1, 1), (52, .iadd, 1), (53, .iastore, 1), (54, .iconst 1, 1), (55, .ireturn, 1)] = true := by decide +kernel
theorem dkX9_addMust_0 : dkq cX9_addMust [(0, .aload_n 0, 1), (1, .getfield 9, 3), (4, .bipush 6, 2), (6, .iaload, 1), (7, .istore 4, 2), (9, .iload 4, 2), (11, .ifCond .lt 10, 3), (14, .iload 4, 2), (16, .bipush 6, 2), (18, .if_icmp .lt 5, 3), (21, .iconst 0, 1), (22, .ireturn, 1), (23, .aload_n 0, 1), (24, .getfield 35, 3), (27, .iload 4, 2), (29, .iload_n 1, 1)] = true := by decide +kernel
theorem dkX9_addMust_1 : dkq cX9_addMust [(30, .iastore, 1), (31, .aload_n 0, 1), (32, .getfield 38, 3), (35, .iload 4, 2), (37, .iload_n 2, 1), (38, .iastore, 1), (39, .aload_n 0, 1), (40, .getfield 41, 3), (43, .iload 4, 2), (45, .iload_n 3, 1), (46, .iastore, 1), (47, .aload_n 0, 1), (48, .getfield 9, 3), (51, .bipush 6, 2), (53, .dup2, 1), (54, .iaload, 1)] = true := by decide +kernel
theorem dkX9_addMust_2 : dkq cX9_addMust [(55, .iconst 1, 1), (56, .iadd, 1), (57, .iastore, 1), (58, .iconst 1, 1), (59, .ireturn, 1)] = true := by decide +kernel
