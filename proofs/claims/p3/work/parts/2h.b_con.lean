def rqm (k b : Nat) : Room := { frames := 10 * (9 - b) + k + 5, cells := 0, slots := 0, locals := 400 * (9 - b) + 40 * k }

def ws_kc_X5_readTest : List Cond := .code yX5_readTest cX5_readTest 3 (some .boolean) :: WY

def ws_kc_X5_readBoth : List Cond := .code yX5_readBoth cX5_readBoth 3 (some .boolean) :: WY

def ws_kc_X5_readFact : List Cond := .code yX5_readFact cX5_readFact 5 (some .boolean) :: WY

def ws_kc_X5_readSum : List Cond := .code yX5_readSum cX5_readSum 4 (some .boolean) :: WY

def ws_kc_X5_readProduct : List Cond := .code yX5_readProduct cX5_readProduct 4 (some .boolean) :: WY

def ws_kc_X5_readPart : List Cond := .code yX5_readPart cX5_readPart 2 (some .boolean) :: WY

def ws_kc_X5_readPair : List Cond := .code yX5_readPair cX5_readPair 2 (some .boolean) :: WY

set_option maxHeartbeats 4000000 in
set_option maxRecDepth 100000 in
theorem kc_X5_readPair (l : Launch) (dC : Nat → ClassId) (dI : Nat → Nat → Nat) (cB cI cJ cZ cQ : ClassId) (aL aS : Nat) (q : Nat → Nat) (b : Nat) (A : St) (ta : Nat) (hI : IK A) (hta : isE ta) (hp0 : A 3 4 = (b : Int)) (hp1 : b ≤ 8) (IHs : ∀ A : St, IK A → A 3 4 = (b : Int) + 1 → b + 1 ≤ 8 → KMi l yX5_readSum ws_kc_X5_readSum (rqm 4 (b + 1)) aL aS (dC, dI) (tyA cB cI cJ cZ cQ) (WK cB cI cJ cZ cQ q) A [.ref (q 3), .ref (q ta)] (fun z u => IK u ∧ fk [71, 102] [(3, 2), (3, 3), (3, 4), (5, 1), (5, 2), (5, 3), (5, 4), (5, 5), (5, 6), (70, 2), (101, 2)] A u ∧ ((0 ≤ z ∧ z ≤ 1) ∧ (z = 1 → u 3 4 = A 3 4)))) : KMi l yX5_readPair ws_kc_X5_readPair (rqm 1 b) aL aS (dC, dI) (tyA cB cI cJ cZ cQ) (WK cB cI cJ cZ cQ q) A [.ref (q 3), .ref (q ta)] (fun z u => IK u ∧ fk [71, 102] [(3, 2), (3, 3), (3, 4), (5, 1), (5, 2), (5, 3), (5, 4), (5, 5), (5, 6), (70, 2), (101, 2)] A u ∧ ((0 ≤ z ∧ z ≤ 1) ∧ (z = 1 → u 3 4 = A 3 4))) := by
  refine k_metz (cc := cX5_readPair) (maxL := 2) WK_adr (plainFor_of_name (by decide +kernel)) rfl (Nat.le_of_ble_eq_true rfl) (fun z u h => h.2.2.1) (fun p e s m below meth c Q AS ls hx hb hml hown hts hK hDD hA0 hE RET H locs hP hS hl => ?_)
  have hown : s.vm.findClass RX5 = some m.cls := hown
  have hl : lv_has ls 2 [(0, .ref (q 3)), (1, .ref (q ta))] := hl
  refine lv_aload_n hx hb dX5_readPair_0 rfl (lv_at hl 0 rfl) ?_
  refine lv_bipush (v := iI 40) hx hb dX5_readPair_1 (by decide +kernel) ?_
  refine k_calli (As := [.int (iI 40)]) (rest := []) ⟨hx, hb, hml, hown, hts⟩ hE (kc_X5_sign l dC dI cB cI cJ cZ cQ aL aS q _ 40 hI ⟨by decide, by decide⟩) (cwV 1 hts (goodVk (wk_in_7 _ (List.mem_of_getElem? (i := 53) rfl)) (wk_in_7 _ (List.mem_of_getElem? (i := 54) rfl)) (wk_in_7 _ (List.mem_of_getElem? (i := 55) rfl)) (wk_in_5 _ (List.mem_of_getElem? (i := 28) rfl)) (wk_in_7 _ (List.mem_of_getElem? (i := 56) rfl))) rfl rfl rfl (by decide +kernel) ⟨by show (2) + 1 ≤ 10 * (9 - b) + 6; omega, by show 8 + (2 + 11) + (45) ≤ 400 * (9 - b) + 40; omega⟩) hK hDD hA0 hP hS 3 5 (wkRD) rfl rfl hl.1 (Nat.le_of_ble_eq_true rfl) dX5_readPair_3 (fun z1 A2 H locs hw3 hP hS => ?_)
  obtain ⟨hI, hf4, hw3⟩ := hw3
  refine lv_if_eq (tgt := 61) hx hb dX5_readPair_6 (by decide) (fun c5 => ?_) (fun c5 => ?_)
  · have c5 : z1 = 0 := (i_eq0 (rb hw3 (by decide) (by decide))).mp c5
    refine lv_iconst (v := iI 0) hx hb dX5_readPair_61 (by decide +kernel) ?_
    have e6 : A2 3 4 = (A 3 4) := (hf4 3 4 rfl rfl)
    have r7 : (0 : Int) ≤ (A 3 4) ∧ (A 3 4) ≤ 8 := by rw [← e6]; exact irRD_4 hI
    exact RET 0 _ _ _ _ _ ⟨hI, fk.trans (fk.rf) hf4 rfl rfl, by omega⟩ hP hS dX5_readPair_62
  · have c5 : ¬ z1 = 0 := mt (i_eq0 (rb hw3 (by decide) (by decide))).mpr c5
    refine lv_aload_n hx hb dX5_readPair_9 rfl (lv_at hl 0 rfl) ?_
    have e8 : A2 3 4 = (A 3 4) := (hf4 3 4 rfl rfl)
    have r9 : (0 : Int) ≤ (A 3 4) ∧ (A 3 4) ≤ 8 := by rw [← e8]; exact irRD_4 hI
    refine k_calli (As := []) (rest := []) ⟨hx, hb, hml, hown, hts⟩ hE (kc_X5_enter l dC dI cB cI cJ cZ cQ aL aS q _ hI) (cwV 0 hts (goodVk (wk_in_7 _ (List.mem_of_getElem? (i := 49) rfl)) (wk_in_7 _ (List.mem_of_getElem? (i := 50) rfl)) (wk_in_7 _ (List.mem_of_getElem? (i := 51) rfl)) (wk_in_5 _ (List.mem_of_getElem? (i := 28) rfl)) (wk_in_7 _ (List.mem_of_getElem? (i := 52) rfl))) rfl rfl rfl (by decide +kernel) ⟨by show (1) + 1 ≤ 10 * (9 - b) + 6; omega, by show 8 + (1 + 11) + (21) ≤ 400 * (9 - b) + 40; omega⟩) hK hDD hA0 hP hS 3 5 (wkRD) rfl rfl hl.1 (Nat.le_of_ble_eq_true rfl) dX5_readPair_10 (fun z10 A11 H locs hw12 hP hS => ?_)
    obtain ⟨hI, hf13, hw12⟩ := hw12
    have r14 : (0 : Int) ≤ (A11 3 4) ∧ (A11 3 4) ≤ 8 := irRD_4 hI
    have rz10 : 0 ≤ z10 ∧ z10 ≤ 1 := hw12.1
    have hw12 := hw12.2
    refine lv_if_eq (tgt := 61) hx hb dX5_readPair_13 (by decide) (fun c15 => ?_) (fun c15 => ?_)
    · have c15 : z10 = 0 := (i_eq0 (rb rz10 (by decide) (by decide))).mp c15
      clear hw12
      refine lv_iconst (v := iI 0) hx hb dX5_readPair_61 (by decide +kernel) ?_
      exact RET 0 _ _ _ _ _ ⟨hI, fk.trans (fk.trans (fk.rf) hf4 rfl rfl) hf13 rfl rfl, by omega⟩ hP hS dX5_readPair_62
    · have c15 : ¬ z10 = 0 := mt (i_eq0 (rb rz10 (by decide) (by decide))).mpr c15
      have hw12b := hw12 (by omega)
      clear hw12
      refine lv_aload_n hx hb dX5_readPair_16 rfl (lv_at hl 0 rfl) ?_
      refine lv_aload_n hx hb dX5_readPair_17 rfl (lv_at hl 1 rfl) ?_
      refine k_calli (As := [.ref (q ta)]) (rest := []) ⟨hx, hb, hml, hown, hts⟩ hE (IHs _ hI (by omega) (by omega)) (cwV 1 hts (goodVk (wk_in_8 _ (List.mem_of_getElem? (i := 1) rfl)) (wk_in_8 _ (List.mem_of_getElem? (i := 2) rfl)) (wk_in_8 _ (List.mem_of_getElem? (i := 3) rfl)) (wk_in_5 _ (List.mem_of_getElem? (i := 28) rfl)) (wk_in_8 _ (List.mem_of_getElem? (i := 4) rfl))) rfl rfl rfl (by decide +kernel) ⟨by show (10 * (9 - (b + 1)) + 9) + 1 ≤ 10 * (9 - b) + 6; omega, by show 8 + (4 + 11) + (400 * (9 - (b + 1)) + 160) ≤ 400 * (9 - b) + 40; omega⟩) hK hDD hA0 hP hS 3 5 (wkRD) rfl rfl hl.1 (Nat.le_of_ble_eq_true rfl) dX5_readPair_18 (fun z16 A17 H locs hw18 hP hS => ?_)
      obtain ⟨hI, hf19, hw18⟩ := hw18
      have r20 : (0 : Int) ≤ (A17 3 4) ∧ (A17 3 4) ≤ 8 := irRD_4 hI
      have rz16 : 0 ≤ z16 ∧ z16 ≤ 1 := hw18.1
      have hw18 := hw18.2
      refine lv_if_eq (tgt := 61) hx hb dX5_readPair_21 (by decide) (fun c21 => ?_) (fun c21 => ?_)
      · have c21 : z16 = 0 := (i_eq0 (rb rz16 (by decide) (by decide))).mp c21
        clear hw18
        refine lv_iconst (v := iI 0) hx hb dX5_readPair_61 (by decide +kernel) ?_
        exact RET 0 _ _ _ _ _ ⟨hI, fk.trans (fk.trans (fk.trans (fk.rf) hf4 rfl rfl) hf13 rfl rfl) hf19 rfl rfl, by omega⟩ hP hS dX5_readPair_62
      · have c21 : ¬ z16 = 0 := mt (i_eq0 (rb rz16 (by decide) (by decide))).mpr c21
        have hw18b := hw18 (by omega)
        clear hw18
        refine lv_aload_n hx hb dX5_readPair_24 rfl (lv_at hl 0 rfl) ?_
        refine lv_bipush (v := iI 44) hx hb dX5_readPair_25 (by decide +kernel) ?_
        refine k_calli (As := [.int (iI 44)]) (rest := []) ⟨hx, hb, hml, hown, hts⟩ hE (kc_X5_sign l dC dI cB cI cJ cZ cQ aL aS q _ 44 hI ⟨by decide, by decide⟩) (cwV 1 hts (goodVk (wk_in_7 _ (List.mem_of_getElem? (i := 53) rfl)) (wk_in_7 _ (List.mem_of_getElem? (i := 54) rfl)) (wk_in_7 _ (List.mem_of_getElem? (i := 55) rfl)) (wk_in_5 _ (List.mem_of_getElem? (i := 28) rfl)) (wk_in_7 _ (List.mem_of_getElem? (i := 56) rfl))) rfl rfl rfl (by decide +kernel) ⟨by show (2) + 1 ≤ 10 * (9 - b) + 6; omega, by show 8 + (2 + 11) + (45) ≤ 400 * (9 - b) + 40; omega⟩) hK hDD hA0 hP hS 3 5 (wkRD) rfl rfl hl.1 (Nat.le_of_ble_eq_true rfl) dX5_readPair_27 (fun z22 A23 H locs hw24 hP hS => ?_)
        obtain ⟨hI, hf25, hw24⟩ := hw24
        refine lv_if_eq (tgt := 61) hx hb dX5_readPair_30 (by decide) (fun c26 => ?_) (fun c26 => ?_)
        · have c26 : z22 = 0 := (i_eq0 (rb hw24 (by decide) (by decide))).mp c26
          refine lv_iconst (v := iI 0) hx hb dX5_readPair_61 (by decide +kernel) ?_
          have e27 : A23 3 4 = (A17 3 4) := (hf25 3 4 rfl rfl)
          exact RET 0 _ _ _ _ _ ⟨hI, fk.trans (fk.trans (fk.trans (fk.trans (fk.rf) hf4 rfl rfl) hf13 rfl rfl) hf19 rfl rfl) hf25 rfl rfl, by omega⟩ hP hS dX5_readPair_62
        · have c26 : ¬ z22 = 0 := mt (i_eq0 (rb hw24 (by decide) (by decide))).mpr c26
          refine lv_aload_n hx hb dX5_readPair_33 rfl (lv_at hl 0 rfl) ?_
          refine lv_aload_n hx hb dX5_readPair_34 rfl (lv_at hl 1 rfl) ?_
          have e28 : A23 3 4 = (A17 3 4) := (hf25 3 4 rfl rfl)
          refine k_calli (As := [.ref (q ta)]) (rest := []) ⟨hx, hb, hml, hown, hts⟩ hE (IHs _ hI (by omega) (by omega)) (cwV 1 hts (goodVk (wk_in_8 _ (List.mem_of_getElem? (i := 1) rfl)) (wk_in_8 _ (List.mem_of_getElem? (i := 2) rfl)) (wk_in_8 _ (List.mem_of_getElem? (i := 3) rfl)) (wk_in_5 _ (List.mem_of_getElem? (i := 28) rfl)) (wk_in_8 _ (List.mem_of_getElem? (i := 4) rfl))) rfl rfl rfl (by decide +kernel) ⟨by show (10 * (9 - (b + 1)) + 9) + 1 ≤ 10 * (9 - b) + 6; omega, by show 8 + (4 + 11) + (400 * (9 - (b + 1)) + 160) ≤ 400 * (9 - b) + 40; omega⟩) hK hDD hA0 hP hS 3 5 (wkRD) rfl rfl hl.1 (Nat.le_of_ble_eq_true rfl) dX5_readPair_35 (fun z29 A30 H locs hw31 hP hS => ?_)
          obtain ⟨hI, hf32, hw31⟩ := hw31
          have r33 : (0 : Int) ≤ (A30 3 4) ∧ (A30 3 4) ≤ 8 := irRD_4 hI
          have rz29 : 0 ≤ z29 ∧ z29 ≤ 1 := hw31.1
          have hw31 := hw31.2
          refine lv_if_eq (tgt := 61) hx hb dX5_readPair_38 (by decide) (fun c34 => ?_) (fun c34 => ?_)
          · have c34 : z29 = 0 := (i_eq0 (rb rz29 (by decide) (by decide))).mp c34
            clear hw31
            refine lv_iconst (v := iI 0) hx hb dX5_readPair_61 (by decide +kernel) ?_
            exact RET 0 _ _ _ _ _ ⟨hI, fk.trans (fk.trans (fk.trans (fk.trans (fk.trans (fk.rf) hf4 rfl rfl) hf13 rfl rfl) hf19 rfl rfl) hf25 rfl rfl) hf32 rfl rfl, by omega⟩ hP hS dX5_readPair_62
          · have c34 : ¬ z29 = 0 := mt (i_eq0 (rb rz29 (by decide) (by decide))).mpr c34
            have hw31b := hw31 (by omega)
            clear hw31
            refine lv_aload_n hx hb dX5_readPair_41 rfl (lv_at hl 0 rfl) ?_
            refine lv_bipush (v := iI 41) hx hb dX5_readPair_42 (by decide +kernel) ?_
            refine k_calli (As := [.int (iI 41)]) (rest := []) ⟨hx, hb, hml, hown, hts⟩ hE (kc_X5_sign l dC dI cB cI cJ cZ cQ aL aS q _ 41 hI ⟨by decide, by decide⟩) (cwV 1 hts (goodVk (wk_in_7 _ (List.mem_of_getElem? (i := 53) rfl)) (wk_in_7 _ (List.mem_of_getElem? (i := 54) rfl)) (wk_in_7 _ (List.mem_of_getElem? (i := 55) rfl)) (wk_in_5 _ (List.mem_of_getElem? (i := 28) rfl)) (wk_in_7 _ (List.mem_of_getElem? (i := 56) rfl))) rfl rfl rfl (by decide +kernel) ⟨by show (2) + 1 ≤ 10 * (9 - b) + 6; omega, by show 8 + (2 + 11) + (45) ≤ 400 * (9 - b) + 40; omega⟩) hK hDD hA0 hP hS 3 5 (wkRD) rfl rfl hl.1 (Nat.le_of_ble_eq_true rfl) dX5_readPair_44 (fun z35 A36 H locs hw37 hP hS => ?_)
            obtain ⟨hI, hf38, hw37⟩ := hw37
            refine lv_if_eq (tgt := 61) hx hb dX5_readPair_47 (by decide) (fun c39 => ?_) (fun c39 => ?_)
            · have c39 : z35 = 0 := (i_eq0 (rb hw37 (by decide) (by decide))).mp c39
              refine lv_iconst (v := iI 0) hx hb dX5_readPair_61 (by decide +kernel) ?_
              have e40 : A36 3 4 = (A30 3 4) := (hf38 3 4 rfl rfl)
              exact RET 0 _ _ _ _ _ ⟨hI, fk.trans (fk.trans (fk.trans (fk.trans (fk.trans (fk.trans (fk.rf) hf4 rfl rfl) hf13 rfl rfl) hf19 rfl rfl) hf25 rfl rfl) hf32 rfl rfl) hf38 rfl rfl, by omega⟩ hP hS dX5_readPair_62
            · have c39 : ¬ z35 = 0 := mt (i_eq0 (rb hw37 (by decide) (by decide))).mpr c39
              refine lv_aload_n hx hb dX5_readPair_50 rfl (lv_at hl 0 rfl) ?_
              have e41 : A36 3 4 = (A30 3 4) := (hf38 3 4 rfl rfl)
              refine k_calli (As := []) (rest := []) ⟨hx, hb, hml, hown, hts⟩ hE (kc_X5_leave l dC dI cB cI cJ cZ cQ aL aS q _ hI (by omega)) (cwV 0 hts (goodVk (wk_in_7 _ (List.mem_of_getElem? (i := 57) rfl)) (wk_in_7 _ (List.mem_of_getElem? (i := 58) rfl)) (wk_in_7 _ (List.mem_of_getElem? (i := 59) rfl)) (wk_in_5 _ (List.mem_of_getElem? (i := 28) rfl)) (wk_in_8 _ (List.mem_of_getElem? (i := 0) rfl))) rfl rfl rfl (by decide +kernel) ⟨by show (0) + 1 ≤ 10 * (9 - b) + 6; omega, by show 8 + (1 + 11) + (0) ≤ 400 * (9 - b) + 40; omega⟩) hK hDD hA0 hP hS 3 5 (wkRD) rfl rfl hl.1 (Nat.le_of_ble_eq_true rfl) dX5_readPair_51 (fun z42 A43 H locs hw44 hP hS => ?_)
              obtain ⟨hI, hf45, hw44⟩ := hw44
              have r46 : (0 : Int) ≤ (A43 3 4) ∧ (A43 3 4) ≤ 8 := irRD_4 hI
              have rz42 : 0 ≤ z42 ∧ z42 ≤ 1 := hw44.1
              have hw44 := hw44.2
              refine lv_if_eq (tgt := 61) hx hb dX5_readPair_54 (by decide) (fun c47 => False.elim (by have c47 : z42 = 0 := (i_eq0 (rb rz42 (by decide) (by decide))).mp c47; omega)) (fun _ => ?_)
              refine lv_iconst (v := iI 1) hx hb dX5_readPair_57 (by decide +kernel) ?_
              refine lv_goto (tgt := 62) hx hb dX5_readPair_58 (by decide) ?_
              exact RET 1 _ _ _ _ _ ⟨hI, fk.trans (fk.trans (fk.trans (fk.trans (fk.trans (fk.trans (fk.trans (fk.rf) hf4 rfl rfl) hf13 rfl rfl) hf19 rfl rfl) hf25 rfl rfl) hf32 rfl rfl) hf38 rfl rfl) hf45 rfl rfl, by omega⟩ hP hS dX5_readPair_62

set_option maxHeartbeats 4000000 in
set_option maxRecDepth 100000 in
theorem kc_X5_readPart (l : Launch) (dC : Nat → ClassId) (dI : Nat → Nat → Nat) (cB cI cJ cZ cQ : ClassId) (aL aS : Nat) (q : Nat → Nat) (b : Nat) (A : St) (ta : Nat) (hI : IK A) (hta : isE ta) (hp0 : A 3 4 = (b : Int)) (hp1 : b ≤ 8) (IHs : ∀ A : St, IK A → A 3 4 = (b : Int) + 1 → b + 1 ≤ 8 → KMi l yX5_readSum ws_kc_X5_readSum (rqm 4 (b + 1)) aL aS (dC, dI) (tyA cB cI cJ cZ cQ) (WK cB cI cJ cZ cQ q) A [.ref (q 3), .ref (q ta)] (fun z u => IK u ∧ fk [71, 102] [(3, 2), (3, 3), (3, 4), (5, 1), (5, 2), (5, 3), (5, 4), (5, 5), (5, 6), (70, 2), (101, 2)] A u ∧ ((0 ≤ z ∧ z ≤ 1) ∧ (z = 1 → u 3 4 = A 3 4)))) : KMi l yX5_readPart ws_kc_X5_readPart (rqm 2 b) aL aS (dC, dI) (tyA cB cI cJ cZ cQ) (WK cB cI cJ cZ cQ q) A [.ref (q 3), .ref (q ta)] (fun z u => IK u ∧ fk [71, 102] [(3, 2), (3, 3), (3, 4), (5, 1), (5, 2), (5, 3), (5, 4), (5, 5), (5, 6), (70, 2), (101, 2)] A u ∧ ((0 ≤ z ∧ z ≤ 1) ∧ (z = 1 → u 3 4 = A 3 4))) := by
  refine k_metz (cc := cX5_readPart) (maxL := 2) WK_adr (plainFor_of_name (by decide +kernel)) rfl (Nat.le_of_ble_eq_true rfl) (fun z u h => h.2.2.1) (fun p e s m below meth c Q AS ls hx hb hml hown hts hK hDD hA0 hE RET H locs hP hS hl => ?_)
  have hown : s.vm.findClass RX5 = some m.cls := hown
  have hl : lv_has ls 2 [(0, .ref (q 3)), (1, .ref (q ta))] := hl
  have hiX5 : ∀ w ∈ u_ws RX5 TX5 5, w ∈ ws_kc_X5_readPart := fun w h => List.mem_cons_of_mem _ (wy_layX5 w h)
  have hiX3 : ∀ w ∈ u_ws RX3 TX3 7, w ∈ ws_kc_X5_readPart := fun w h => List.mem_cons_of_mem _ (wy_layX3 w h)
  refine lv_aload_n hx hb dX5_readPart_0 rfl (lv_at hl 0 rfl) ?_
  refine va_get (D := (dC, dI)) (ci := 5) (v := .ref (q 5)) (C := RX5) (T := TX5) (N := 5) hx hb hts hiX5 hown hK hP 3 (wkRD) rfl 0 (by decide) (hts _ (List.mem_cons_of_mem _ (wk_in_5 _ (List.mem_of_getElem? (i := 6) rfl)))) (fun _ h9 => h9) rfl dX5_readPart_1 ?_
  refine k_callv (As := []) (rest := []) ⟨hx, hb, hml, hown, hts⟩ hE (kc_X3_look l dC dI cB cI cJ cZ cQ aL aS q _ hI) (cwV 0 hts (goodVk (wk_in_5 _ (List.mem_of_getElem? (i := 22) rfl)) (wk_in_5 _ (List.mem_of_getElem? (i := 23) rfl)) (wk_in_5 _ (List.mem_of_getElem? (i := 24) rfl)) (wk_in_4 _ (List.mem_of_getElem? (i := 10) rfl)) (wk_in_4 _ (List.mem_of_getElem? (i := 2) rfl))) rfl rfl rfl (by decide +kernel) ⟨by show (1) + 1 ≤ 10 * (9 - b) + 7; omega, by show 8 + (1 + 11) + (25) ≤ 400 * (9 - b) + 80; omega⟩) hK hDD hA0 hP hS 5 3 (wkLX) rfl rfl hl.1 (Nat.le_of_ble_eq_true rfl) dX5_readPart_4 (fun A1 H locs hw2 hP hS => ?_)
  obtain ⟨hI, hf3, hw2⟩ := hw2
  clear hw2
  refine lv_aload_n hx hb dX5_readPart_7 rfl (lv_at hl 0 rfl) ?_
  refine va_get (D := (dC, dI)) (ci := 5) (v := .ref (q 5)) (C := RX5) (T := TX5) (N := 5) hx hb hts hiX5 hown hK hP 3 (wkRD) rfl 0 (by decide) (hts _ (List.mem_cons_of_mem _ (wk_in_5 _ (List.mem_of_getElem? (i := 6) rfl)))) (fun _ h9 => h9) rfl dX5_readPart_8 ?_
  have r4 : (0 : Int) ≤ (A1 5 2) ∧ (A1 5 2) ≤ 4 := irLX_2 hI
  refine va_get (D := (dC, dI)) (ci := 3) (v := .int (iI (A1 5 2))) (C := RX3) (T := TX3) (N := 7) hx hb hts hiX3 hown hK hP 5 (wkLX) rfl 2 (by decide) (hts _ (List.mem_cons_of_mem _ (wk_in_5 _ (List.mem_of_getElem? (i := 9) rfl)))) (fun _ h9 => h9) rfl dX5_readPart_11 ?_
  refine lv_iconst (v := iI 2) hx hb dX5_readPart_14 (by decide +kernel) ?_
  refine lv_icmp_ne (tgt := 37) hx hb dX5_readPart_15 (by decide) (fun c5 => ?_) (fun c5 => ?_)
  · have c5 : ¬ (A1 5 2) = 2 := mt (i_eq (rb r4 (by decide) (by decide)) ⟨by decide, by decide⟩).mpr c5
    refine lv_aload_n hx hb dX5_readPart_37 rfl (lv_at hl 0 rfl) ?_
    refine lv_bipush (v := iI 40) hx hb dX5_readPart_38 (by decide +kernel) ?_
    refine k_calli (As := [.int (iI 40)]) (rest := []) ⟨hx, hb, hml, hown, hts⟩ hE (kc_X5_passesSign l dC dI cB cI cJ cZ cQ aL aS q _ 40 hI ⟨by decide, by decide⟩) (cwV 1 hts (goodVk (wk_in_7 _ (List.mem_of_getElem? (i := 42) rfl)) (wk_in_7 _ (List.mem_of_getElem? (i := 43) rfl)) (wk_in_7 _ (List.mem_of_getElem? (i := 44) rfl)) (wk_in_5 _ (List.mem_of_getElem? (i := 28) rfl)) (wk_in_7 _ (List.mem_of_getElem? (i := 45) rfl))) rfl rfl rfl (by decide +kernel) ⟨by show (2) + 1 ≤ 10 * (9 - b) + 7; omega, by show 8 + (2 + 11) + (45) ≤ 400 * (9 - b) + 80; omega⟩) hK hDD hA0 hP hS 3 5 (wkRD) rfl rfl hl.1 (Nat.le_of_ble_eq_true rfl) dX5_readPart_40 (fun z6 A7 H locs hw8 hP hS => ?_)
    obtain ⟨hI, hf9, hw8⟩ := hw8
    refine lv_if_eq (tgt := 83) hx hb dX5_readPart_43 (by decide) (fun c10 => ?_) (fun c10 => ?_)
    · have c10 : z6 = 0 := (i_eq0 (rb hw8 (by decide) (by decide))).mp c10
      refine lv_aload_n hx hb dX5_readPart_83 rfl (lv_at hl 0 rfl) ?_
      refine lv_bipush (v := iI 20) hx hb dX5_readPart_84 (by decide +kernel) ?_
      refine k_calli (As := [.int (iI 20)]) (rest := []) ⟨hx, hb, hml, hown, hts⟩ hE (kc_X5_passesWord l dC dI cB cI cJ cZ cQ aL aS q _ 20 hI ⟨by decide, by decide⟩) (cwV 1 hts (goodVk (wk_in_6 _ (List.mem_of_getElem? (i := 27) rfl)) (wk_in_6 _ (List.mem_of_getElem? (i := 28) rfl)) (wk_in_6 _ (List.mem_of_getElem? (i := 29) rfl)) (wk_in_5 _ (List.mem_of_getElem? (i := 28) rfl)) (wk_in_6 _ (List.mem_of_getElem? (i := 30) rfl))) rfl rfl rfl (by decide +kernel) ⟨by show (2) + 1 ≤ 10 * (9 - b) + 7; omega, by show 8 + (2 + 11) + (45) ≤ 400 * (9 - b) + 80; omega⟩) hK hDD hA0 hP hS 3 5 (wkRD) rfl rfl hl.1 (Nat.le_of_ble_eq_true rfl) dX5_readPart_86 (fun z11 A12 H locs hw13 hP hS => ?_)
      obtain ⟨hI, hf14, hw13⟩ := hw13
      refine lv_if_eq (tgt := 98) hx hb dX5_readPart_89 (by decide) (fun c15 => ?_) (fun c15 => ?_)
      · have c15 : z11 = 0 := (i_eq0 (rb hw13 (by decide) (by decide))).mp c15
        refine lv_aload_n hx hb dX5_readPart_98 rfl (lv_at hl 0 rfl) ?_
        refine lv_bipush (v := iI 21) hx hb dX5_readPart_99 (by decide +kernel) ?_
        refine k_calli (As := [.int (iI 21)]) (rest := []) ⟨hx, hb, hml, hown, hts⟩ hE (kc_X5_passesWord l dC dI cB cI cJ cZ cQ aL aS q _ 21 hI ⟨by decide, by decide⟩) (cwV 1 hts (goodVk (wk_in_6 _ (List.mem_of_getElem? (i := 27) rfl)) (wk_in_6 _ (List.mem_of_getElem? (i := 28) rfl)) (wk_in_6 _ (List.mem_of_getElem? (i := 29) rfl)) (wk_in_5 _ (List.mem_of_getElem? (i := 28) rfl)) (wk_in_6 _ (List.mem_of_getElem? (i := 30) rfl))) rfl rfl rfl (by decide +kernel) ⟨by show (2) + 1 ≤ 10 * (9 - b) + 7; omega, by show 8 + (2 + 11) + (45) ≤ 400 * (9 - b) + 80; omega⟩) hK hDD hA0 hP hS 3 5 (wkRD) rfl rfl hl.1 (Nat.le_of_ble_eq_true rfl) dX5_readPart_101 (fun z16 A17 H locs hw18 hP hS => ?_)
        obtain ⟨hI, hf19, hw18⟩ := hw18
        refine lv_if_eq (tgt := 114) hx hb dX5_readPart_104 (by decide) (fun c20 => ?_) (fun c20 => ?_)
        · have c20 : z16 = 0 := (i_eq0 (rb hw18 (by decide) (by decide))).mp c20
          refine lv_aload_n hx hb dX5_readPart_114 rfl (lv_at hl 0 rfl) ?_
          refine lv_bipush (v := iI 22) hx hb dX5_readPart_115 (by decide +kernel) ?_
          refine k_calli (As := [.int (iI 22)]) (rest := []) ⟨hx, hb, hml, hown, hts⟩ hE (kc_X5_passesWord l dC dI cB cI cJ cZ cQ aL aS q _ 22 hI ⟨by decide, by decide⟩) (cwV 1 hts (goodVk (wk_in_6 _ (List.mem_of_getElem? (i := 27) rfl)) (wk_in_6 _ (List.mem_of_getElem? (i := 28) rfl)) (wk_in_6 _ (List.mem_of_getElem? (i := 29) rfl)) (wk_in_5 _ (List.mem_of_getElem? (i := 28) rfl)) (wk_in_6 _ (List.mem_of_getElem? (i := 30) rfl))) rfl rfl rfl (by decide +kernel) ⟨by show (2) + 1 ≤ 10 * (9 - b) + 7; omega, by show 8 + (2 + 11) + (45) ≤ 400 * (9 - b) + 80; omega⟩) hK hDD hA0 hP hS 3 5 (wkRD) rfl rfl hl.1 (Nat.le_of_ble_eq_true rfl) dX5_readPart_117 (fun z21 A22 H locs hw23 hP hS => ?_)
          obtain ⟨hI, hf24, hw23⟩ := hw23
          refine lv_if_eq (tgt := 130) hx hb dX5_readPart_120 (by decide) (fun c25 => ?_) (fun c25 => ?_)
          · have c25 : z21 = 0 := (i_eq0 (rb hw23 (by decide) (by decide))).mp c25
            refine lv_aload_n hx hb dX5_readPart_130 rfl (lv_at hl 0 rfl) ?_
            refine lv_bipush (v := iI 23) hx hb dX5_readPart_131 (by decide +kernel) ?_
            refine k_calli (As := [.int (iI 23)]) (rest := []) ⟨hx, hb, hml, hown, hts⟩ hE (kc_X5_passesWord l dC dI cB cI cJ cZ cQ aL aS q _ 23 hI ⟨by decide, by decide⟩) (cwV 1 hts (goodVk (wk_in_6 _ (List.mem_of_getElem? (i := 27) rfl)) (wk_in_6 _ (List.mem_of_getElem? (i := 28) rfl)) (wk_in_6 _ (List.mem_of_getElem? (i := 29) rfl)) (wk_in_5 _ (List.mem_of_getElem? (i := 28) rfl)) (wk_in_6 _ (List.mem_of_getElem? (i := 30) rfl))) rfl rfl rfl (by decide +kernel) ⟨by show (2) + 1 ≤ 10 * (9 - b) + 7; omega, by show 8 + (2 + 11) + (45) ≤ 400 * (9 - b) + 80; omega⟩) hK hDD hA0 hP hS 3 5 (wkRD) rfl rfl hl.1 (Nat.le_of_ble_eq_true rfl) dX5_readPart_133 (fun z26 A27 H locs hw28 hP hS => ?_)
            obtain ⟨hI, hf29, hw28⟩ := hw28
            refine lv_if_eq (tgt := 146) hx hb dX5_readPart_136 (by decide) (fun c30 => ?_) (fun c30 => ?_)
            · have c30 : z26 = 0 := (i_eq0 (rb hw28 (by decide) (by decide))).mp c30
              refine lv_aload_n hx hb dX5_readPart_146 rfl (lv_at hl 0 rfl) ?_
              refine lv_bipush (v := iI 24) hx hb dX5_readPart_147 (by decide +kernel) ?_
              refine k_calli (As := [.int (iI 24)]) (rest := []) ⟨hx, hb, hml, hown, hts⟩ hE (kc_X5_passesWord l dC dI cB cI cJ cZ cQ aL aS q _ 24 hI ⟨by decide, by decide⟩) (cwV 1 hts (goodVk (wk_in_6 _ (List.mem_of_getElem? (i := 27) rfl)) (wk_in_6 _ (List.mem_of_getElem? (i := 28) rfl)) (wk_in_6 _ (List.mem_of_getElem? (i := 29) rfl)) (wk_in_5 _ (List.mem_of_getElem? (i := 28) rfl)) (wk_in_6 _ (List.mem_of_getElem? (i := 30) rfl))) rfl rfl rfl (by decide +kernel) ⟨by show (2) + 1 ≤ 10 * (9 - b) + 7; omega, by show 8 + (2 + 11) + (45) ≤ 400 * (9 - b) + 80; omega⟩) hK hDD hA0 hP hS 3 5 (wkRD) rfl rfl hl.1 (Nat.le_of_ble_eq_true rfl) dX5_readPart_149 (fun z31 A32 H locs hw33 hP hS => ?_)
              obtain ⟨hI, hf34, hw33⟩ := hw33
              refine lv_if_eq (tgt := 178) hx hb dX5_readPart_152 (by decide) (fun c35 => ?_) (fun c35 => ?_)
              · have c35 : z31 = 0 := (i_eq0 (rb hw33 (by decide) (by decide))).mp c35
                refine lv_aload_n hx hb dX5_readPart_178 rfl (lv_at hl 0 rfl) ?_
                refine lv_bipush (v := iI 25) hx hb dX5_readPart_179 (by decide +kernel) ?_
                refine k_calli (As := [.int (iI 25)]) (rest := []) ⟨hx, hb, hml, hown, hts⟩ hE (kc_X5_passesWord l dC dI cB cI cJ cZ cQ aL aS q _ 25 hI ⟨by decide, by decide⟩) (cwV 1 hts (goodVk (wk_in_6 _ (List.mem_of_getElem? (i := 27) rfl)) (wk_in_6 _ (List.mem_of_getElem? (i := 28) rfl)) (wk_in_6 _ (List.mem_of_getElem? (i := 29) rfl)) (wk_in_5 _ (List.mem_of_getElem? (i := 28) rfl)) (wk_in_6 _ (List.mem_of_getElem? (i := 30) rfl))) rfl rfl rfl (by decide +kernel) ⟨by show (2) + 1 ≤ 10 * (9 - b) + 7; omega, by show 8 + (2 + 11) + (45) ≤ 400 * (9 - b) + 80; omega⟩) hK hDD hA0 hP hS 3 5 (wkRD) rfl rfl hl.1 (Nat.le_of_ble_eq_true rfl) dX5_readPart_181 (fun z36 A37 H locs hw38 hP hS => ?_)
                obtain ⟨hI, hf39, hw38⟩ := hw38
                refine lv_if_eq (tgt := 210) hx hb dX5_readPart_184 (by decide) (fun c40 => ?_) (fun c40 => ?_)
                · have c40 : z36 = 0 := (i_eq0 (rb hw38 (by decide) (by decide))).mp c40
                  refine lv_aload_n hx hb dX5_readPart_210 rfl (lv_at hl 0 rfl) ?_
                  refine lv_iconst (v := iI 1) hx hb dX5_readPart_211 (by decide +kernel) ?_
                  refine k_calli (As := [.int (iI 1)]) (rest := []) ⟨hx, hb, hml, hown, hts⟩ hE (kc_X5_bad l dC dI cB cI cJ cZ cQ aL aS q _ 1 hI ⟨by decide, by decide⟩) (cwV 1 hts (goodVk (wk_in_5 _ (List.mem_of_getElem? (i := 37) rfl)) (wk_in_5 _ (List.mem_of_getElem? (i := 38) rfl)) (wk_in_5 _ (List.mem_of_getElem? (i := 39) rfl)) (wk_in_5 _ (List.mem_of_getElem? (i := 28) rfl)) (wk_in_5 _ (List.mem_of_getElem? (i := 40) rfl))) rfl rfl rfl (by decide +kernel) ⟨by show (0) + 1 ≤ 10 * (9 - b) + 7; omega, by show 8 + (2 + 11) + (0) ≤ 400 * (9 - b) + 80; omega⟩) hK hDD hA0 hP hS 3 5 (wkRD) rfl rfl hl.1 (Nat.le_of_ble_eq_true rfl) dX5_readPart_212 (fun z41 A42 H locs hw43 hP hS => ?_)
                  obtain ⟨hI, hf44, hw43⟩ := hw43
                  have rz41 : 0 ≤ z41 ∧ z41 ≤ 1 := hw43.1
                  have hw43 := hw43.2
                  have e53 : A1 3 4 = (A 3 4) := (hf3 3 4 rfl rfl)
                  have e52 : A7 3 4 = (A 3 4) := (hf9 3 4 rfl rfl).trans e53
                  have e51 : A12 3 4 = (A 3 4) := (hf14 3 4 rfl rfl).trans e52
                  have e50 : A17 3 4 = (A 3 4) := (hf19 3 4 rfl rfl).trans e51
                  have e49 : A22 3 4 = (A 3 4) := (hf24 3 4 rfl rfl).trans e50
                  have e48 : A27 3 4 = (A 3 4) := (hf29 3 4 rfl rfl).trans e49
                  have e47 : A32 3 4 = (A 3 4) := (hf34 3 4 rfl rfl).trans e48
                  have e46 : A37 3 4 = (A 3 4) := (hf39 3 4 rfl rfl).trans e47
                  have e45 : A42 3 4 = (A 3 4) := (hf44 3 4 rfl rfl).trans e46
                  have r54 : (0 : Int) ≤ (A 3 4) ∧ (A 3 4) ≤ 8 := by rw [← e45]; exact irRD_4 hI
                  exact RET z41 _ _ _ _ _ ⟨hI, fk.trans (fk.trans (fk.trans (fk.trans (fk.trans (fk.trans (fk.trans (fk.trans (fk.trans (fk.rf) hf3 rfl rfl) hf9 rfl rfl) hf14 rfl rfl) hf19 rfl rfl) hf24 rfl rfl) hf29 rfl rfl) hf34 rfl rfl) hf39 rfl rfl) hf44 rfl rfl, by omega⟩ hP hS dX5_readPart_215
                · have c40 : ¬ z36 = 0 := mt (i_eq0 (rb hw38 (by decide) (by decide))).mpr c40
                  refine lv_aload_n hx hb dX5_readPart_187 rfl (lv_at hl 0 rfl) ?_
                  refine lv_aload_n hx hb dX5_readPart_188 rfl (lv_at hl 1 rfl) ?_
                  have e62 : A1 3 4 = (A 3 4) := (hf3 3 4 rfl rfl)
                  have e61 : A7 3 4 = (A 3 4) := (hf9 3 4 rfl rfl).trans e62
                  have e60 : A12 3 4 = (A 3 4) := (hf14 3 4 rfl rfl).trans e61
                  have e59 : A17 3 4 = (A 3 4) := (hf19 3 4 rfl rfl).trans e60
                  have e58 : A22 3 4 = (A 3 4) := (hf24 3 4 rfl rfl).trans e59
                  have e57 : A27 3 4 = (A 3 4) := (hf29 3 4 rfl rfl).trans e58
                  have e56 : A32 3 4 = (A 3 4) := (hf34 3 4 rfl rfl).trans e57
                  have e55 : A37 3 4 = (A 3 4) := (hf39 3 4 rfl rfl).trans e56
                  have r63 : (0 : Int) ≤ (A 3 4) ∧ (A 3 4) ≤ 8 := by rw [← e55]; exact irRD_4 hI
                  refine k_calli (As := [.ref (q ta)]) (rest := []) ⟨hx, hb, hml, hown, hts⟩ hE (kc_X5_readPair l dC dI cB cI cJ cZ cQ aL aS q b _ ta hI hta (by omega) (by omega) IHs) (cwV 1 hts (goodVk (wk_in_8 _ (List.mem_of_getElem? (i := 10) rfl)) (wk_in_8 _ (List.mem_of_getElem? (i := 11) rfl)) (wk_in_8 _ (List.mem_of_getElem? (i := 12) rfl)) (wk_in_5 _ (List.mem_of_getElem? (i := 28) rfl)) (wk_in_8 _ (List.mem_of_getElem? (i := 8) rfl))) rfl rfl rfl (by decide +kernel) ⟨by show (10 * (9 - b) + 6) + 1 ≤ 10 * (9 - b) + 7; omega, by show 8 + (2 + 11) + (400 * (9 - b) + 40) ≤ 400 * (9 - b) + 80; omega⟩) hK hDD hA0 hP hS 3 5 (wkRD) rfl rfl hl.1 (Nat.le_of_ble_eq_true rfl) dX5_readPart_189 (fun z64 A65 H locs hw66 hP hS => ?_)
                  obtain ⟨hI, hf67, hw66⟩ := hw66
                  have r68 : (0 : Int) ≤ (A65 3 4) ∧ (A65 3 4) ≤ 8 := irRD_4 hI
                  have rz64 : 0 ≤ z64 ∧ z64 ≤ 1 := hw66.1
                  have hw66 := hw66.2
                  refine lv_if_eq (tgt := 208) hx hb dX5_readPart_192 (by decide) (fun c69 => ?_) (fun c69 => ?_)
                  · have c69 : z64 = 0 := (i_eq0 (rb rz64 (by decide) (by decide))).mp c69
                    clear hw66
                    refine lv_iconst (v := iI 0) hx hb dX5_readPart_208 (by decide +kernel) ?_
                    exact RET 0 _ _ _ _ _ ⟨hI, fk.trans (fk.trans (fk.trans (fk.trans (fk.trans (fk.trans (fk.trans (fk.trans (fk.trans (fk.rf) hf3 rfl rfl) hf9 rfl rfl) hf14 rfl rfl) hf19 rfl rfl) hf24 rfl rfl) hf29 rfl rfl) hf34 rfl rfl) hf39 rfl rfl) hf67 rfl rfl, by omega⟩ hP hS dX5_readPart_209
                  · have c69 : ¬ z64 = 0 := mt (i_eq0 (rb rz64 (by decide) (by decide))).mpr c69
                    have hw66b := hw66 (by omega)
                    clear hw66
                    refine lv_aload_n hx hb dX5_readPart_195 rfl (lv_at hl 1 rfl) ?_
                    refine lv_bipush (v := iI (-18)) hx hb dX5_readPart_196 (by decide +kernel) ?_
                    refine k_calli (As := [.int (iI (-18))]) (rest := []) ⟨hx, hb, hml, hown, hts⟩ hE (kc_X8_add l dC dI cB cI cJ cZ cQ aL aS q _ ta (-18) hI hta ⟨by decide, by decide⟩) (cwV 1 hts (goodVk (wk_in_7 _ (List.mem_of_getElem? (i := 33) rfl)) (wk_in_7 _ (List.mem_of_getElem? (i := 34) rfl)) (wk_in_7 _ (List.mem_of_getElem? (i := 35) rfl)) (wk_in_1 _ (List.mem_of_getElem? (i := 35) rfl)) (wk_in_7 _ (List.mem_of_getElem? (i := 36) rfl))) rfl rfl rfl (by decide +kernel) ⟨by show (0) + 1 ≤ 10 * (9 - b) + 7; omega, by show 8 + (2 + 11) + (0) ≤ 400 * (9 - b) + 80; omega⟩) hK hDD hA0 hP hS ta 8 (wkE hta) rfl rfl hl.1 (Nat.le_of_ble_eq_true rfl) dX5_readPart_198 (fun z70 A71 H locs hw72 hP hS => ?_)
                    obtain ⟨hI, hf73, hw72⟩ := hw72
                    refine lv_if_eq (tgt := 208) hx hb dX5_readPart_201 (by decide) (fun c74 => ?_) (fun c74 => ?_)
                    · have c74 : z70 = 0 := (i_eq0 (rb hw72 (by decide) (by decide))).mp c74
                      refine lv_iconst (v := iI 0) hx hb dX5_readPart_208 (by decide +kernel) ?_
                      have e75 : A71 3 4 = (A65 3 4) := (hf73 3 4 rfl rfl)
                      exact RET 0 _ _ _ _ _ ⟨hI, fk.trans (fk.trans (fk.trans (fk.trans (fk.trans (fk.trans (fk.trans (fk.trans (fk.trans (fk.trans (fk.rf) hf3 rfl rfl) hf9 rfl rfl) hf14 rfl rfl) hf19 rfl rfl) hf24 rfl rfl) hf29 rfl rfl) hf34 rfl rfl) hf39 rfl rfl) hf67 rfl rfl) hf73 rfl rfl, by omega⟩ hP hS dX5_readPart_209
                    · have c74 : ¬ z70 = 0 := mt (i_eq0 (rb hw72 (by decide) (by decide))).mpr c74
                      refine lv_iconst (v := iI 1) hx hb dX5_readPart_204 (by decide +kernel) ?_
                      refine lv_goto (tgt := 209) hx hb dX5_readPart_205 (by decide) ?_
                      have e76 : A71 3 4 = (A65 3 4) := (hf73 3 4 rfl rfl)
                      exact RET 1 _ _ _ _ _ ⟨hI, fk.trans (fk.trans (fk.trans (fk.trans (fk.trans (fk.trans (fk.trans (fk.trans (fk.trans (fk.trans (fk.rf) hf3 rfl rfl) hf9 rfl rfl) hf14 rfl rfl) hf19 rfl rfl) hf24 rfl rfl) hf29 rfl rfl) hf34 rfl rfl) hf39 rfl rfl) hf67 rfl rfl) hf73 rfl rfl, by omega⟩ hP hS dX5_readPart_209
              · have c35 : ¬ z31 = 0 := mt (i_eq0 (rb hw33 (by decide) (by decide))).mpr c35
                refine lv_aload_n hx hb dX5_readPart_155 rfl (lv_at hl 0 rfl) ?_
                refine lv_aload_n hx hb dX5_readPart_156 rfl (lv_at hl 1 rfl) ?_
                have e83 : A1 3 4 = (A 3 4) := (hf3 3 4 rfl rfl)
                have e82 : A7 3 4 = (A 3 4) := (hf9 3 4 rfl rfl).trans e83
                have e81 : A12 3 4 = (A 3 4) := (hf14 3 4 rfl rfl).trans e82
                have e80 : A17 3 4 = (A 3 4) := (hf19 3 4 rfl rfl).trans e81
                have e79 : A22 3 4 = (A 3 4) := (hf24 3 4 rfl rfl).trans e80
                have e78 : A27 3 4 = (A 3 4) := (hf29 3 4 rfl rfl).trans e79
                have e77 : A32 3 4 = (A 3 4) := (hf34 3 4 rfl rfl).trans e78
                have r84 : (0 : Int) ≤ (A 3 4) ∧ (A 3 4) ≤ 8 := by rw [← e77]; exact irRD_4 hI
                refine k_calli (As := [.ref (q ta)]) (rest := []) ⟨hx, hb, hml, hown, hts⟩ hE (kc_X5_readPair l dC dI cB cI cJ cZ cQ aL aS q b _ ta hI hta (by omega) (by omega) IHs) (cwV 1 hts (goodVk (wk_in_8 _ (List.mem_of_getElem? (i := 10) rfl)) (wk_in_8 _ (List.mem_of_getElem? (i := 11) rfl)) (wk_in_8 _ (List.mem_of_getElem? (i := 12) rfl)) (wk_in_5 _ (List.mem_of_getElem? (i := 28) rfl)) (wk_in_8 _ (List.mem_of_getElem? (i := 8) rfl))) rfl rfl rfl (by decide +kernel) ⟨by show (10 * (9 - b) + 6) + 1 ≤ 10 * (9 - b) + 7; omega, by show 8 + (2 + 11) + (400 * (9 - b) + 40) ≤ 400 * (9 - b) + 80; omega⟩) hK hDD hA0 hP hS 3 5 (wkRD) rfl rfl hl.1 (Nat.le_of_ble_eq_true rfl) dX5_readPart_157 (fun z85 A86 H locs hw87 hP hS => ?_)
                obtain ⟨hI, hf88, hw87⟩ := hw87
                have r89 : (0 : Int) ≤ (A86 3 4) ∧ (A86 3 4) ≤ 8 := irRD_4 hI
                have rz85 : 0 ≤ z85 ∧ z85 ≤ 1 := hw87.1
                have hw87 := hw87.2
                refine lv_if_eq (tgt := 176) hx hb dX5_readPart_160 (by decide) (fun c90 => ?_) (fun c90 => ?_)
                · have c90 : z85 = 0 := (i_eq0 (rb rz85 (by decide) (by decide))).mp c90
                  clear hw87
                  refine lv_iconst (v := iI 0) hx hb dX5_readPart_176 (by decide +kernel) ?_
                  exact RET 0 _ _ _ _ _ ⟨hI, fk.trans (fk.trans (fk.trans (fk.trans (fk.trans (fk.trans (fk.trans (fk.trans (fk.rf) hf3 rfl rfl) hf9 rfl rfl) hf14 rfl rfl) hf19 rfl rfl) hf24 rfl rfl) hf29 rfl rfl) hf34 rfl rfl) hf88 rfl rfl, by omega⟩ hP hS dX5_readPart_177
                · have c90 : ¬ z85 = 0 := mt (i_eq0 (rb rz85 (by decide) (by decide))).mpr c90
                  have hw87b := hw87 (by omega)
                  clear hw87
                  refine lv_aload_n hx hb dX5_readPart_163 rfl (lv_at hl 1 rfl) ?_
                  refine lv_bipush (v := iI (-17)) hx hb dX5_readPart_164 (by decide +kernel) ?_
                  refine k_calli (As := [.int (iI (-17))]) (rest := []) ⟨hx, hb, hml, hown, hts⟩ hE (kc_X8_add l dC dI cB cI cJ cZ cQ aL aS q _ ta (-17) hI hta ⟨by decide, by decide⟩) (cwV 1 hts (goodVk (wk_in_7 _ (List.mem_of_getElem? (i := 33) rfl)) (wk_in_7 _ (List.mem_of_getElem? (i := 34) rfl)) (wk_in_7 _ (List.mem_of_getElem? (i := 35) rfl)) (wk_in_1 _ (List.mem_of_getElem? (i := 35) rfl)) (wk_in_7 _ (List.mem_of_getElem? (i := 36) rfl))) rfl rfl rfl (by decide +kernel) ⟨by show (0) + 1 ≤ 10 * (9 - b) + 7; omega, by show 8 + (2 + 11) + (0) ≤ 400 * (9 - b) + 80; omega⟩) hK hDD hA0 hP hS ta 8 (wkE hta) rfl rfl hl.1 (Nat.le_of_ble_eq_true rfl) dX5_readPart_166 (fun z91 A92 H locs hw93 hP hS => ?_)
                  obtain ⟨hI, hf94, hw93⟩ := hw93
                  refine lv_if_eq (tgt := 176) hx hb dX5_readPart_169 (by decide) (fun c95 => ?_) (fun c95 => ?_)
                  · have c95 : z91 = 0 := (i_eq0 (rb hw93 (by decide) (by decide))).mp c95
                    refine lv_iconst (v := iI 0) hx hb dX5_readPart_176 (by decide +kernel) ?_
                    have e96 : A92 3 4 = (A86 3 4) := (hf94 3 4 rfl rfl)
                    exact RET 0 _ _ _ _ _ ⟨hI, fk.trans (fk.trans (fk.trans (fk.trans (fk.trans (fk.trans (fk.trans (fk.trans (fk.trans (fk.rf) hf3 rfl rfl) hf9 rfl rfl) hf14 rfl rfl) hf19 rfl rfl) hf24 rfl rfl) hf29 rfl rfl) hf34 rfl rfl) hf88 rfl rfl) hf94 rfl rfl, by omega⟩ hP hS dX5_readPart_177
                  · have c95 : ¬ z91 = 0 := mt (i_eq0 (rb hw93 (by decide) (by decide))).mpr c95
                    refine lv_iconst (v := iI 1) hx hb dX5_readPart_172 (by decide +kernel) ?_
                    refine lv_goto (tgt := 177) hx hb dX5_readPart_173 (by decide) ?_
                    have e97 : A92 3 4 = (A86 3 4) := (hf94 3 4 rfl rfl)
                    exact RET 1 _ _ _ _ _ ⟨hI, fk.trans (fk.trans (fk.trans (fk.trans (fk.trans (fk.trans (fk.trans (fk.trans (fk.trans (fk.rf) hf3 rfl rfl) hf9 rfl rfl) hf14 rfl rfl) hf19 rfl rfl) hf24 rfl rfl) hf29 rfl rfl) hf34 rfl rfl) hf88 rfl rfl) hf94 rfl rfl, by omega⟩ hP hS dX5_readPart_177
            · have c30 : ¬ z26 = 0 := mt (i_eq0 (rb hw28 (by decide) (by decide))).mpr c30
              refine lv_aload_n hx hb dX5_readPart_139 rfl (lv_at hl 1 rfl) ?_
              refine lv_bipush (v := iI (-4)) hx hb dX5_readPart_140 (by decide +kernel) ?_
              refine k_calli (As := [.int (iI (-4))]) (rest := []) ⟨hx, hb, hml, hown, hts⟩ hE (kc_X8_add l dC dI cB cI cJ cZ cQ aL aS q _ ta (-4) hI hta ⟨by decide, by decide⟩) (cwV 1 hts (goodVk (wk_in_7 _ (List.mem_of_getElem? (i := 33) rfl)) (wk_in_7 _ (List.mem_of_getElem? (i := 34) rfl)) (wk_in_7 _ (List.mem_of_getElem? (i := 35) rfl)) (wk_in_1 _ (List.mem_of_getElem? (i := 35) rfl)) (wk_in_7 _ (List.mem_of_getElem? (i := 36) rfl))) rfl rfl rfl (by decide +kernel) ⟨by show (0) + 1 ≤ 10 * (9 - b) + 7; omega, by show 8 + (2 + 11) + (0) ≤ 400 * (9 - b) + 80; omega⟩) hK hDD hA0 hP hS ta 8 (wkE hta) rfl rfl hl.1 (Nat.le_of_ble_eq_true rfl) dX5_readPart_142 (fun z98 A99 H locs hw100 hP hS => ?_)
              obtain ⟨hI, hf101, hw100⟩ := hw100
              have e108 : A1 3 4 = (A 3 4) := (hf3 3 4 rfl rfl)
              have e107 : A7 3 4 = (A 3 4) := (hf9 3 4 rfl rfl).trans e108
              have e106 : A12 3 4 = (A 3 4) := (hf14 3 4 rfl rfl).trans e107
              have e105 : A17 3 4 = (A 3 4) := (hf19 3 4 rfl rfl).trans e106
              have e104 : A22 3 4 = (A 3 4) := (hf24 3 4 rfl rfl).trans e105
              have e103 : A27 3 4 = (A 3 4) := (hf29 3 4 rfl rfl).trans e104
              have e102 : A99 3 4 = (A 3 4) := (hf101 3 4 rfl rfl).trans e103
              have r109 : (0 : Int) ≤ (A 3 4) ∧ (A 3 4) ≤ 8 := by rw [← e102]; exact irRD_4 hI
              exact RET z98 _ _ _ _ _ ⟨hI, fk.trans (fk.trans (fk.trans (fk.trans (fk.trans (fk.trans (fk.trans (fk.rf) hf3 rfl rfl) hf9 rfl rfl) hf14 rfl rfl) hf19 rfl rfl) hf24 rfl rfl) hf29 rfl rfl) hf101 rfl rfl, by omega⟩ hP hS dX5_readPart_145
          · have c25 : ¬ z21 = 0 := mt (i_eq0 (rb hw23 (by decide) (by decide))).mpr c25
            refine lv_aload_n hx hb dX5_readPart_123 rfl (lv_at hl 1 rfl) ?_
            refine lv_bipush (v := iI (-3)) hx hb dX5_readPart_124 (by decide +kernel) ?_
            refine k_calli (As := [.int (iI (-3))]) (rest := []) ⟨hx, hb, hml, hown, hts⟩ hE (kc_X8_add l dC dI cB cI cJ cZ cQ aL aS q _ ta (-3) hI hta ⟨by decide, by decide⟩) (cwV 1 hts (goodVk (wk_in_7 _ (List.mem_of_getElem? (i := 33) rfl)) (wk_in_7 _ (List.mem_of_getElem? (i := 34) rfl)) (wk_in_7 _ (List.mem_of_getElem? (i := 35) rfl)) (wk_in_1 _ (List.mem_of_getElem? (i := 35) rfl)) (wk_in_7 _ (List.mem_of_getElem? (i := 36) rfl))) rfl rfl rfl (by decide +kernel) ⟨by show (0) + 1 ≤ 10 * (9 - b) + 7; omega, by show 8 + (2 + 11) + (0) ≤ 400 * (9 - b) + 80; omega⟩) hK hDD hA0 hP hS ta 8 (wkE hta) rfl rfl hl.1 (Nat.le_of_ble_eq_true rfl) dX5_readPart_126 (fun z110 A111 H locs hw112 hP hS => ?_)
            obtain ⟨hI, hf113, hw112⟩ := hw112
            have e119 : A1 3 4 = (A 3 4) := (hf3 3 4 rfl rfl)
            have e118 : A7 3 4 = (A 3 4) := (hf9 3 4 rfl rfl).trans e119
            have e117 : A12 3 4 = (A 3 4) := (hf14 3 4 rfl rfl).trans e118
            have e116 : A17 3 4 = (A 3 4) := (hf19 3 4 rfl rfl).trans e117
            have e115 : A22 3 4 = (A 3 4) := (hf24 3 4 rfl rfl).trans e116
            have e114 : A111 3 4 = (A 3 4) := (hf113 3 4 rfl rfl).trans e115
            have r120 : (0 : Int) ≤ (A 3 4) ∧ (A 3 4) ≤ 8 := by rw [← e114]; exact irRD_4 hI
            exact RET z110 _ _ _ _ _ ⟨hI, fk.trans (fk.trans (fk.trans (fk.trans (fk.trans (fk.trans (fk.rf) hf3 rfl rfl) hf9 rfl rfl) hf14 rfl rfl) hf19 rfl rfl) hf24 rfl rfl) hf113 rfl rfl, by omega⟩ hP hS dX5_readPart_129
        · have c20 : ¬ z16 = 0 := mt (i_eq0 (rb hw18 (by decide) (by decide))).mpr c20
          refine lv_aload_n hx hb dX5_readPart_107 rfl (lv_at hl 1 rfl) ?_
          refine lv_bipush (v := iI (-2)) hx hb dX5_readPart_108 (by decide +kernel) ?_
          refine k_calli (As := [.int (iI (-2))]) (rest := []) ⟨hx, hb, hml, hown, hts⟩ hE (kc_X8_add l dC dI cB cI cJ cZ cQ aL aS q _ ta (-2) hI hta ⟨by decide, by decide⟩) (cwV 1 hts (goodVk (wk_in_7 _ (List.mem_of_getElem? (i := 33) rfl)) (wk_in_7 _ (List.mem_of_getElem? (i := 34) rfl)) (wk_in_7 _ (List.mem_of_getElem? (i := 35) rfl)) (wk_in_1 _ (List.mem_of_getElem? (i := 35) rfl)) (wk_in_7 _ (List.mem_of_getElem? (i := 36) rfl))) rfl rfl rfl (by decide +kernel) ⟨by show (0) + 1 ≤ 10 * (9 - b) + 7; omega, by show 8 + (2 + 11) + (0) ≤ 400 * (9 - b) + 80; omega⟩) hK hDD hA0 hP hS ta 8 (wkE hta) rfl rfl hl.1 (Nat.le_of_ble_eq_true rfl) dX5_readPart_110 (fun z121 A122 H locs hw123 hP hS => ?_)
          obtain ⟨hI, hf124, hw123⟩ := hw123
          have e129 : A1 3 4 = (A 3 4) := (hf3 3 4 rfl rfl)
          have e128 : A7 3 4 = (A 3 4) := (hf9 3 4 rfl rfl).trans e129
          have e127 : A12 3 4 = (A 3 4) := (hf14 3 4 rfl rfl).trans e128
          have e126 : A17 3 4 = (A 3 4) := (hf19 3 4 rfl rfl).trans e127
          have e125 : A122 3 4 = (A 3 4) := (hf124 3 4 rfl rfl).trans e126
          have r130 : (0 : Int) ≤ (A 3 4) ∧ (A 3 4) ≤ 8 := by rw [← e125]; exact irRD_4 hI
          exact RET z121 _ _ _ _ _ ⟨hI, fk.trans (fk.trans (fk.trans (fk.trans (fk.trans (fk.rf) hf3 rfl rfl) hf9 rfl rfl) hf14 rfl rfl) hf19 rfl rfl) hf124 rfl rfl, by omega⟩ hP hS dX5_readPart_113
      · have c15 : ¬ z11 = 0 := mt (i_eq0 (rb hw13 (by decide) (by decide))).mpr c15
        refine lv_aload_n hx hb dX5_readPart_92 rfl (lv_at hl 1 rfl) ?_
        refine lv_iconst (v := iI (-1)) hx hb dX5_readPart_93 (by decide +kernel) ?_
        refine k_calli (As := [.int (iI (-1))]) (rest := []) ⟨hx, hb, hml, hown, hts⟩ hE (kc_X8_add l dC dI cB cI cJ cZ cQ aL aS q _ ta (-1) hI hta ⟨by decide, by decide⟩) (cwV 1 hts (goodVk (wk_in_7 _ (List.mem_of_getElem? (i := 33) rfl)) (wk_in_7 _ (List.mem_of_getElem? (i := 34) rfl)) (wk_in_7 _ (List.mem_of_getElem? (i := 35) rfl)) (wk_in_1 _ (List.mem_of_getElem? (i := 35) rfl)) (wk_in_7 _ (List.mem_of_getElem? (i := 36) rfl))) rfl rfl rfl (by decide +kernel) ⟨by show (0) + 1 ≤ 10 * (9 - b) + 7; omega, by show 8 + (2 + 11) + (0) ≤ 400 * (9 - b) + 80; omega⟩) hK hDD hA0 hP hS ta 8 (wkE hta) rfl rfl hl.1 (Nat.le_of_ble_eq_true rfl) dX5_readPart_94 (fun z131 A132 H locs hw133 hP hS => ?_)
        obtain ⟨hI, hf134, hw133⟩ := hw133
        have e138 : A1 3 4 = (A 3 4) := (hf3 3 4 rfl rfl)
        have e137 : A7 3 4 = (A 3 4) := (hf9 3 4 rfl rfl).trans e138
        have e136 : A12 3 4 = (A 3 4) := (hf14 3 4 rfl rfl).trans e137
        have e135 : A132 3 4 = (A 3 4) := (hf134 3 4 rfl rfl).trans e136
        have r139 : (0 : Int) ≤ (A 3 4) ∧ (A 3 4) ≤ 8 := by rw [← e135]; exact irRD_4 hI
        exact RET z131 _ _ _ _ _ ⟨hI, fk.trans (fk.trans (fk.trans (fk.trans (fk.rf) hf3 rfl rfl) hf9 rfl rfl) hf14 rfl rfl) hf134 rfl rfl, by omega⟩ hP hS dX5_readPart_97
    · have c10 : ¬ z6 = 0 := mt (i_eq0 (rb hw8 (by decide) (by decide))).mpr c10
      refine lv_aload_n hx hb dX5_readPart_46 rfl (lv_at hl 0 rfl) ?_
      have e141 : A1 3 4 = (A 3 4) := (hf3 3 4 rfl rfl)
      have e140 : A7 3 4 = (A 3 4) := (hf9 3 4 rfl rfl).trans e141
      have r142 : (0 : Int) ≤ (A 3 4) ∧ (A 3 4) ≤ 8 := by rw [← e140]; exact irRD_4 hI
      refine k_calli (As := []) (rest := []) ⟨hx, hb, hml, hown, hts⟩ hE (kc_X5_enter l dC dI cB cI cJ cZ cQ aL aS q _ hI) (cwV 0 hts (goodVk (wk_in_7 _ (List.mem_of_getElem? (i := 49) rfl)) (wk_in_7 _ (List.mem_of_getElem? (i := 50) rfl)) (wk_in_7 _ (List.mem_of_getElem? (i := 51) rfl)) (wk_in_5 _ (List.mem_of_getElem? (i := 28) rfl)) (wk_in_7 _ (List.mem_of_getElem? (i := 52) rfl))) rfl rfl rfl (by decide +kernel) ⟨by show (1) + 1 ≤ 10 * (9 - b) + 7; omega, by show 8 + (1 + 11) + (21) ≤ 400 * (9 - b) + 80; omega⟩) hK hDD hA0 hP hS 3 5 (wkRD) rfl rfl hl.1 (Nat.le_of_ble_eq_true rfl) dX5_readPart_47 (fun z143 A144 H locs hw145 hP hS => ?_)
      obtain ⟨hI, hf146, hw145⟩ := hw145
      have r147 : (0 : Int) ≤ (A144 3 4) ∧ (A144 3 4) ≤ 8 := irRD_4 hI
      have rz143 : 0 ≤ z143 ∧ z143 ≤ 1 := hw145.1
      have hw145 := hw145.2
      refine lv_if_eq (tgt := 81) hx hb dX5_readPart_50 (by decide) (fun c148 => ?_) (fun c148 => ?_)
      · have c148 : z143 = 0 := (i_eq0 (rb rz143 (by decide) (by decide))).mp c148
        clear hw145
        refine lv_iconst (v := iI 0) hx hb dX5_readPart_81 (by decide +kernel) ?_
        exact RET 0 _ _ _ _ _ ⟨hI, fk.trans (fk.trans (fk.trans (fk.rf) hf3 rfl rfl) hf9 rfl rfl) hf146 rfl rfl, by omega⟩ hP hS dX5_readPart_82
      · have c148 : ¬ z143 = 0 := mt (i_eq0 (rb rz143 (by decide) (by decide))).mpr c148
        have hw145b := hw145 (by omega)
        clear hw145
        refine lv_aload_n hx hb dX5_readPart_53 rfl (lv_at hl 0 rfl) ?_
        refine lv_aload_n hx hb dX5_readPart_54 rfl (lv_at hl 1 rfl) ?_
        refine k_calli (As := [.ref (q ta)]) (rest := []) ⟨hx, hb, hml, hown, hts⟩ hE (IHs _ hI (by omega) (by omega)) (cwV 1 hts (goodVk (wk_in_8 _ (List.mem_of_getElem? (i := 1) rfl)) (wk_in_8 _ (List.mem_of_getElem? (i := 2) rfl)) (wk_in_8 _ (List.mem_of_getElem? (i := 3) rfl)) (wk_in_5 _ (List.mem_of_getElem? (i := 28) rfl)) (wk_in_8 _ (List.mem_of_getElem? (i := 4) rfl))) rfl rfl rfl (by decide +kernel) ⟨by show (10 * (9 - (b + 1)) + 9) + 1 ≤ 10 * (9 - b) + 7; omega, by show 8 + (4 + 11) + (400 * (9 - (b + 1)) + 160) ≤ 400 * (9 - b) + 80; omega⟩) hK hDD hA0 hP hS 3 5 (wkRD) rfl rfl hl.1 (Nat.le_of_ble_eq_true rfl) dX5_readPart_55 (fun z149 A150 H locs hw151 hP hS => ?_)
        obtain ⟨hI, hf152, hw151⟩ := hw151
        have r153 : (0 : Int) ≤ (A150 3 4) ∧ (A150 3 4) ≤ 8 := irRD_4 hI
        have rz149 : 0 ≤ z149 ∧ z149 ≤ 1 := hw151.1
        have hw151 := hw151.2
        refine lv_if_eq (tgt := 81) hx hb dX5_readPart_58 (by decide) (fun c154 => ?_) (fun c154 => ?_)
        · have c154 : z149 = 0 := (i_eq0 (rb rz149 (by decide) (by decide))).mp c154
          clear hw151
          refine lv_iconst (v := iI 0) hx hb dX5_readPart_81 (by decide +kernel) ?_
          exact RET 0 _ _ _ _ _ ⟨hI, fk.trans (fk.trans (fk.trans (fk.trans (fk.rf) hf3 rfl rfl) hf9 rfl rfl) hf146 rfl rfl) hf152 rfl rfl, by omega⟩ hP hS dX5_readPart_82
        · have c154 : ¬ z149 = 0 := mt (i_eq0 (rb rz149 (by decide) (by decide))).mpr c154
          have hw151b := hw151 (by omega)
          clear hw151
          refine lv_aload_n hx hb dX5_readPart_61 rfl (lv_at hl 0 rfl) ?_
          refine lv_bipush (v := iI 41) hx hb dX5_readPart_62 (by decide +kernel) ?_
          refine k_calli (As := [.int (iI 41)]) (rest := []) ⟨hx, hb, hml, hown, hts⟩ hE (kc_X5_sign l dC dI cB cI cJ cZ cQ aL aS q _ 41 hI ⟨by decide, by decide⟩) (cwV 1 hts (goodVk (wk_in_7 _ (List.mem_of_getElem? (i := 53) rfl)) (wk_in_7 _ (List.mem_of_getElem? (i := 54) rfl)) (wk_in_7 _ (List.mem_of_getElem? (i := 55) rfl)) (wk_in_5 _ (List.mem_of_getElem? (i := 28) rfl)) (wk_in_7 _ (List.mem_of_getElem? (i := 56) rfl))) rfl rfl rfl (by decide +kernel) ⟨by show (2) + 1 ≤ 10 * (9 - b) + 7; omega, by show 8 + (2 + 11) + (45) ≤ 400 * (9 - b) + 80; omega⟩) hK hDD hA0 hP hS 3 5 (wkRD) rfl rfl hl.1 (Nat.le_of_ble_eq_true rfl) dX5_readPart_64 (fun z155 A156 H locs hw157 hP hS => ?_)
          obtain ⟨hI, hf158, hw157⟩ := hw157
          refine lv_if_eq (tgt := 81) hx hb dX5_readPart_67 (by decide) (fun c159 => ?_) (fun c159 => ?_)
          · have c159 : z155 = 0 := (i_eq0 (rb hw157 (by decide) (by decide))).mp c159
            refine lv_iconst (v := iI 0) hx hb dX5_readPart_81 (by decide +kernel) ?_
            have e160 : A156 3 4 = (A150 3 4) := (hf158 3 4 rfl rfl)
            exact RET 0 _ _ _ _ _ ⟨hI, fk.trans (fk.trans (fk.trans (fk.trans (fk.trans (fk.rf) hf3 rfl rfl) hf9 rfl rfl) hf146 rfl rfl) hf152 rfl rfl) hf158 rfl rfl, by omega⟩ hP hS dX5_readPart_82
          · have c159 : ¬ z155 = 0 := mt (i_eq0 (rb hw157 (by decide) (by decide))).mpr c159
            refine lv_aload_n hx hb dX5_readPart_70 rfl (lv_at hl 0 rfl) ?_
            have e161 : A156 3 4 = (A150 3 4) := (hf158 3 4 rfl rfl)
            refine k_calli (As := []) (rest := []) ⟨hx, hb, hml, hown, hts⟩ hE (kc_X5_leave l dC dI cB cI cJ cZ cQ aL aS q _ hI (by omega)) (cwV 0 hts (goodVk (wk_in_7 _ (List.mem_of_getElem? (i := 57) rfl)) (wk_in_7 _ (List.mem_of_getElem? (i := 58) rfl)) (wk_in_7 _ (List.mem_of_getElem? (i := 59) rfl)) (wk_in_5 _ (List.mem_of_getElem? (i := 28) rfl)) (wk_in_8 _ (List.mem_of_getElem? (i := 0) rfl))) rfl rfl rfl (by decide +kernel) ⟨by show (0) + 1 ≤ 10 * (9 - b) + 7; omega, by show 8 + (1 + 11) + (0) ≤ 400 * (9 - b) + 80; omega⟩) hK hDD hA0 hP hS 3 5 (wkRD) rfl rfl hl.1 (Nat.le_of_ble_eq_true rfl) dX5_readPart_71 (fun z162 A163 H locs hw164 hP hS => ?_)
            obtain ⟨hI, hf165, hw164⟩ := hw164
            have r166 : (0 : Int) ≤ (A163 3 4) ∧ (A163 3 4) ≤ 8 := irRD_4 hI
            have rz162 : 0 ≤ z162 ∧ z162 ≤ 1 := hw164.1
            have hw164 := hw164.2
            refine lv_if_eq (tgt := 81) hx hb dX5_readPart_74 (by decide) (fun c167 => False.elim (by have c167 : z162 = 0 := (i_eq0 (rb rz162 (by decide) (by decide))).mp c167; omega)) (fun _ => ?_)
            refine lv_iconst (v := iI 1) hx hb dX5_readPart_77 (by decide +kernel) ?_
            refine lv_goto (tgt := 82) hx hb dX5_readPart_78 (by decide) ?_
            exact RET 1 _ _ _ _ _ ⟨hI, fk.trans (fk.trans (fk.trans (fk.trans (fk.trans (fk.trans (fk.rf) hf3 rfl rfl) hf9 rfl rfl) hf146 rfl rfl) hf152 rfl rfl) hf158 rfl rfl) hf165 rfl rfl, by omega⟩ hP hS dX5_readPart_82
  · have c5 : (A1 5 2) = 2 := (i_eq (rb r4 (by decide) (by decide)) ⟨by decide, by decide⟩).mp c5
    refine lv_aload_n hx hb dX5_readPart_18 rfl (lv_at hl 0 rfl) ?_
    refine va_get (D := (dC, dI)) (ci := 5) (v := .ref (q 5)) (C := RX5) (T := TX5) (N := 5) hx hb hts hiX5 hown hK hP 3 (wkRD) rfl 0 (by decide) (hts _ (List.mem_cons_of_mem _ (wk_in_5 _ (List.mem_of_getElem? (i := 6) rfl)))) (fun _ h9 => h9) rfl dX5_readPart_19 ?_
    refine k_callv (As := []) (rest := []) ⟨hx, hb, hml, hown, hts⟩ hE (kc_X3_pass l dC dI cB cI cJ cZ cQ aL aS q _ hI) (cwV 0 hts (goodVk (wk_in_5 _ (List.mem_of_getElem? (i := 42) rfl)) (wk_in_5 _ (List.mem_of_getElem? (i := 43) rfl)) (wk_in_5 _ (List.mem_of_getElem? (i := 44) rfl)) (wk_in_4 _ (List.mem_of_getElem? (i := 10) rfl)) (wk_in_3 _ (List.mem_of_getElem? (i := 58) rfl))) rfl rfl rfl (by decide +kernel) ⟨by show (0) + 1 ≤ 10 * (9 - b) + 7; omega, by show 8 + (1 + 11) + (0) ≤ 400 * (9 - b) + 80; omega⟩) hK hDD hA0 hP hS 5 3 (wkLX) rfl rfl hl.1 (Nat.le_of_ble_eq_true rfl) dX5_readPart_22 (fun A168 H locs hw169 hP hS => ?_)
    obtain ⟨hI, hf170, hw169⟩ := hw169
    clear hw169
    refine lv_aload_n hx hb dX5_readPart_25 rfl (lv_at hl 1 rfl) ?_
    refine lv_aload_n hx hb dX5_readPart_26 rfl (lv_at hl 0 rfl) ?_
    refine va_get (D := (dC, dI)) (ci := 5) (v := .ref (q 5)) (C := RX5) (T := TX5) (N := 5) hx hb hts hiX5 hown hK hP 3 (wkRD) rfl 0 (by decide) (hts _ (List.mem_cons_of_mem _ (wk_in_5 _ (List.mem_of_getElem? (i := 6) rfl)))) (fun _ h9 => h9) rfl dX5_readPart_27 ?_
    have e171 : A168 5 4 = (A1 5 4) := (hf170 5 4 rfl rfl)
    have r172 : (-2147483648 : Int) ≤ (A1 5 4) ∧ (A1 5 4) ≤ 2147483647 := by rw [← e171]; exact irLX_4 hI
    refine va_get (D := (dC, dI)) (ci := 3) (v := .int (iI (A168 5 4))) (C := RX3) (T := TX3) (N := 7) hx hb hts hiX3 hown hK hP 5 (wkLX) rfl 4 (by decide) (hts _ (List.mem_cons_of_mem _ (wk_in_5 _ (List.mem_of_getElem? (i := 30) rfl)))) (fun _ h9 => h9) rfl dX5_readPart_30 ?_
    refine tp_i (y := iI (A1 5 4)) (congrArg iI e171) ?_
    refine k_calli (As := [.int (iI (A1 5 4))]) (rest := []) ⟨hx, hb, hml, hown, hts⟩ hE (kc_X8_add l dC dI cB cI cJ cZ cQ aL aS q _ ta (A1 5 4) hI hta r172) (cwV 1 hts (goodVk (wk_in_7 _ (List.mem_of_getElem? (i := 33) rfl)) (wk_in_7 _ (List.mem_of_getElem? (i := 34) rfl)) (wk_in_7 _ (List.mem_of_getElem? (i := 35) rfl)) (wk_in_1 _ (List.mem_of_getElem? (i := 35) rfl)) (wk_in_7 _ (List.mem_of_getElem? (i := 36) rfl))) rfl rfl rfl (by decide +kernel) ⟨by show (0) + 1 ≤ 10 * (9 - b) + 7; omega, by show 8 + (2 + 11) + (0) ≤ 400 * (9 - b) + 80; omega⟩) hK hDD hA0 hP hS ta 8 (wkE hta) rfl rfl hl.1 (Nat.le_of_ble_eq_true rfl) dX5_readPart_33 (fun z173 A174 H locs hw175 hP hS => ?_)
    obtain ⟨hI, hf176, hw175⟩ := hw175
    have e179 : A1 3 4 = (A 3 4) := (hf3 3 4 rfl rfl)
    have e178 : A168 3 4 = (A 3 4) := (hf170 3 4 rfl rfl).trans e179
    have e177 : A174 3 4 = (A 3 4) := (hf176 3 4 rfl rfl).trans e178
    have r180 : (0 : Int) ≤ (A 3 4) ∧ (A 3 4) ≤ 8 := by rw [← e177]; exact irRD_4 hI
    exact RET z173 _ _ _ _ _ ⟨hI, fk.trans (fk.trans (fk.trans (fk.rf) hf3 rfl rfl) hf170 rfl rfl) hf176 rfl rfl, by omega⟩ hP hS dX5_readPart_36

set_option maxHeartbeats 4000000 in
set_option maxRecDepth 100000 in
theorem kc_X5_readProduct (l : Launch) (dC : Nat → ClassId) (dI : Nat → Nat → Nat) (cB cI cJ cZ cQ : ClassId) (aL aS : Nat) (q : Nat → Nat) (b : Nat) (A : St) (ta : Nat) (hI : IK A) (hta : isE ta) (hp0 : A 3 4 = (b : Int)) (hp1 : b ≤ 8) (IHs : ∀ A : St, IK A → A 3 4 = (b : Int) + 1 → b + 1 ≤ 8 → KMi l yX5_readSum ws_kc_X5_readSum (rqm 4 (b + 1)) aL aS (dC, dI) (tyA cB cI cJ cZ cQ) (WK cB cI cJ cZ cQ q) A [.ref (q 3), .ref (q ta)] (fun z u => IK u ∧ fk [71, 102] [(3, 2), (3, 3), (3, 4), (5, 1), (5, 2), (5, 3), (5, 4), (5, 5), (5, 6), (70, 2), (101, 2)] A u ∧ ((0 ≤ z ∧ z ≤ 1) ∧ (z = 1 → u 3 4 = A 3 4)))) : KMi l yX5_readProduct ws_kc_X5_readProduct (rqm 3 b) aL aS (dC, dI) (tyA cB cI cJ cZ cQ) (WK cB cI cJ cZ cQ q) A [.ref (q 3), .ref (q ta)] (fun z u => IK u ∧ fk [71, 102] [(3, 2), (3, 3), (3, 4), (5, 1), (5, 2), (5, 3), (5, 4), (5, 5), (5, 6), (70, 2), (101, 2)] A u ∧ ((0 ≤ z ∧ z ≤ 1) ∧ (z = 1 → u 3 4 = A 3 4))) := by
  refine k_metz (cc := cX5_readProduct) (maxL := 4) WK_adr (plainFor_of_name (by decide +kernel)) rfl (Nat.le_of_ble_eq_true rfl) (fun z u h => h.2.2.1) (fun p e s m below meth c Q AS ls hx hb hml hown hts hK hDD hA0 hE RET H locs hP hS hl => ?_)
  have hown : s.vm.findClass RX5 = some m.cls := hown
  have hl : lv_has ls 4 [(0, .ref (q 3)), (1, .ref (q ta))] := hl
  refine lv_aload_n hx hb dX5_readProduct_0 rfl (lv_at hl 0 rfl) ?_
  refine lv_aload_n hx hb dX5_readProduct_1 rfl (lv_at hl 1 rfl) ?_
  have r1 : (0 : Int) ≤ (A 3 4) ∧ (A 3 4) ≤ 8 := irRD_4 hI
  refine k_calli (As := [.ref (q ta)]) (rest := []) ⟨hx, hb, hml, hown, hts⟩ hE (kc_X5_readPart l dC dI cB cI cJ cZ cQ aL aS q b _ ta hI hta (by omega) (by omega) IHs) (cwV 1 hts (goodVk (wk_in_8 _ (List.mem_of_getElem? (i := 14) rfl)) (wk_in_8 _ (List.mem_of_getElem? (i := 15) rfl)) (wk_in_8 _ (List.mem_of_getElem? (i := 16) rfl)) (wk_in_5 _ (List.mem_of_getElem? (i := 28) rfl)) (wk_in_8 _ (List.mem_of_getElem? (i := 9) rfl))) rfl rfl rfl (by decide +kernel) ⟨by show (10 * (9 - b) + 7) + 1 ≤ 10 * (9 - b) + 8; omega, by show 8 + (2 + 11) + (400 * (9 - b) + 80) ≤ 400 * (9 - b) + 120; omega⟩) hK hDD hA0 hP hS 3 5 (wkRD) rfl rfl hl.1 (Nat.le_of_ble_eq_true rfl) dX5_readProduct_2 (fun z2 A3 H locs hw4 hP hS => ?_)
  obtain ⟨hI, hf5, hw4⟩ := hw4
  have r6 : (0 : Int) ≤ (A3 3 4) ∧ (A3 3 4) ≤ 8 := irRD_4 hI
  have rz2 : 0 ≤ z2 ∧ z2 ≤ 1 := hw4.1
  have hw4 := hw4.2
  refine lv_if_ne (tgt := 10) hx hb dX5_readProduct_5 (by decide) (fun c7 => ?_) (fun c7 => ?_)
  · have c7 : ¬ z2 = 0 := mt (i_eq0 (rb rz2 (by decide) (by decide))).mpr c7
    have hw4b := hw4 (by omega)
    clear hw4
    refine lv_iconst (v := iI 0) hx hb dX5_readProduct_10 (by decide +kernel) ?_
    refine lv_istore_n (lv' := [(2, .int (iI 0)), (0, .ref (q 3)), (1, .ref (q ta))]) hx hb dX5_readProduct_11 rfl hl (by decide) rfl (fun ls hl => ?_)
    have L12_11 : ∀ (n15 : Nat) (z8 : Int) (A10 : St) (H : Heap) (locs : List Loc) (ls : Array Slot), (0 ≤ z8 ∧ z8 ≤ 2147483647) → (A10 3 4 = A 3 4) → ((1601 - z8).toNat = n15) → IK A10 → fk [71, 102] [(3, 2), (3, 3), (3, 4), (5, 1), (5, 2), (5, 3), (5, 4), (5, 5), (5, 6), (70, 2), (101, 2)] A3 A10 → va_P (dC, dI) vwCl (WK cB cI cJ cZ cQ q A10) H → va_S AS s.heap H locs → lv_has ls 4 [(2, .int (iI z8)), (0, .ref (q 3)), (1, .ref (q ta))] → W p l e (headSpec ws_kc_X5_readProduct (rqm 3 b)).room s m [.ref (q 3), .ref (q ta)].toArray below meth c H locs 0 0 Q (F0 m 12 ls []) := by
      intro n15
      induction n15 using Nat.strongRecOn with
      | ind n15 ih12 =>
        intro z8 A10 H locs ls f13 f14 hn15 hI hj9 hP hS hl
        have r16 : (0 : Int) ≤ (A10 3 4) ∧ (A10 3 4) ≤ 8 := irRD_4 hI
        refine lv_iload_n hx hb dX5_readProduct_12 rfl (lv_at hl 0 rfl) ?_
        refine lv_sipush (v := iI 1600) hx hb dX5_readProduct_13 (by decide +kernel) ?_
        refine lv_icmp_ge (tgt := 87) hx hb dX5_readProduct_16 (by decide) (fun c17 => ?_) (fun c17 => ?_)
        · have c17 : 1600 ≤ z8 := (i_le ⟨by decide, by decide⟩ (rb f13 (by decide) (by decide))).mp c17
          refine lv_iconst (v := iI 0) hx hb dX5_readProduct_87 (by decide +kernel) ?_
          exact RET 0 _ _ _ _ _ ⟨hI, fk.trans (fk.trans (fk.rf) hf5 rfl rfl) hj9 rfl rfl, by omega⟩ hP hS dX5_readProduct_88
        · have c17 : ¬ 1600 ≤ z8 := mt (i_le ⟨by decide, by decide⟩ (rb f13 (by decide) (by decide))).mpr c17
          refine lv_bipush (v := iI (-14)) hx hb dX5_readProduct_19 (by decide +kernel) ?_
          refine lv_istore_n (lv' := [(3, .int (iI (-14))), (2, .int (iI z8)), (0, .ref (q 3)), (1, .ref (q ta))]) hx hb dX5_readProduct_21 rfl hl (by decide) rfl (fun ls hl => ?_)
          refine lv_aload_n hx hb dX5_readProduct_22 rfl (lv_at hl 2 rfl) ?_
          refine lv_bipush (v := iI 47) hx hb dX5_readProduct_23 (by decide +kernel) ?_
          refine k_calli (As := [.int (iI 47)]) (rest := []) ⟨hx, hb, hml, hown, hts⟩ hE (kc_X5_passesSign l dC dI cB cI cJ cZ cQ aL aS q _ 47 hI ⟨by decide, by decide⟩) (cwV 1 hts (goodVk (wk_in_7 _ (List.mem_of_getElem? (i := 42) rfl)) (wk_in_7 _ (List.mem_of_getElem? (i := 43) rfl)) (wk_in_7 _ (List.mem_of_getElem? (i := 44) rfl)) (wk_in_5 _ (List.mem_of_getElem? (i := 28) rfl)) (wk_in_7 _ (List.mem_of_getElem? (i := 45) rfl))) rfl rfl rfl (by decide +kernel) ⟨by show (2) + 1 ≤ 10 * (9 - b) + 8; omega, by show 8 + (2 + 11) + (45) ≤ 400 * (9 - b) + 120; omega⟩) hK hDD hA0 hP hS 3 5 (wkRD) rfl rfl hl.1 (Nat.le_of_ble_eq_true rfl) dX5_readProduct_25 (fun z18 A19 H locs hw20 hP hS => ?_)
          obtain ⟨hI, hf21, hw20⟩ := hw20
          have J63_23 : ∀ (z37 : Int) (A39 : St) (H : Heap) (locs : List Loc) (ls : Array Slot), (-16 ≤ z37 ∧ z37 ≤ -14) → IK A39 → fk [] [(5, 1), (5, 2), (5, 3), (5, 4), (5, 5), (5, 6)] A19 A39 → va_P (dC, dI) vwCl (WK cB cI cJ cZ cQ q A39) H → va_S AS s.heap H locs → lv_has ls 4 [(3, .int (iI z37)), (2, .int (iI z8)), (0, .ref (q 3)), (1, .ref (q ta))] → W p l e (headSpec ws_kc_X5_readProduct (rqm 3 b)).room s m [.ref (q 3), .ref (q ta)].toArray below meth c H locs 0 0 Q (F0 m 63 ls []) := by
            intro z37 A39 H locs ls f40 hI hj38 hP hS hl
            refine lv_aload_n hx hb dX5_readProduct_63 rfl (lv_at hl 2 rfl) ?_
            refine lv_aload_n hx hb dX5_readProduct_64 rfl (lv_at hl 3 rfl) ?_
            have e42 : A19 3 4 = (A10 3 4) := (hf21 3 4 rfl rfl)
            have e41 : A39 3 4 = (A10 3 4) := (hj38 3 4 rfl rfl).trans e42
            refine k_calli (As := [.ref (q ta)]) (rest := []) ⟨hx, hb, hml, hown, hts⟩ hE (kc_X5_readPart l dC dI cB cI cJ cZ cQ aL aS q b _ ta hI hta (by omega) (by omega) IHs) (cwV 1 hts (goodVk (wk_in_8 _ (List.mem_of_getElem? (i := 14) rfl)) (wk_in_8 _ (List.mem_of_getElem? (i := 15) rfl)) (wk_in_8 _ (List.mem_of_getElem? (i := 16) rfl)) (wk_in_5 _ (List.mem_of_getElem? (i := 28) rfl)) (wk_in_8 _ (List.mem_of_getElem? (i := 9) rfl))) rfl rfl rfl (by decide +kernel) ⟨by show (10 * (9 - b) + 7) + 1 ≤ 10 * (9 - b) + 8; omega, by show 8 + (2 + 11) + (400 * (9 - b) + 80) ≤ 400 * (9 - b) + 120; omega⟩) hK hDD hA0 hP hS 3 5 (wkRD) rfl rfl hl.1 (Nat.le_of_ble_eq_true rfl) dX5_readProduct_65 (fun z43 A44 H locs hw45 hP hS => ?_)
            obtain ⟨hI, hf46, hw45⟩ := hw45
            have r47 : (0 : Int) ≤ (A44 3 4) ∧ (A44 3 4) ≤ 8 := irRD_4 hI
            have rz43 : 0 ≤ z43 ∧ z43 ≤ 1 := hw45.1
            have hw45 := hw45.2
            refine lv_if_eq (tgt := 79) hx hb dX5_readProduct_68 (by decide) (fun c48 => ?_) (fun c48 => ?_)
            · have c48 : z43 = 0 := (i_eq0 (rb rz43 (by decide) (by decide))).mp c48
              clear hw45
              refine lv_iconst (v := iI 0) hx hb dX5_readProduct_79 (by decide +kernel) ?_
              exact RET 0 _ _ _ _ _ ⟨hI, fk.trans (fk.trans (fk.trans (fk.trans (fk.trans (fk.rf) hf5 rfl rfl) hj9 rfl rfl) hf21 rfl rfl) hj38 rfl rfl) hf46 rfl rfl, by omega⟩ hP hS dX5_readProduct_80
            · have c48 : ¬ z43 = 0 := mt (i_eq0 (rb rz43 (by decide) (by decide))).mpr c48
              have hw45b := hw45 (by omega)
              clear hw45
              refine lv_aload_n hx hb dX5_readProduct_71 rfl (lv_at hl 3 rfl) ?_
              refine lv_iload_n hx hb dX5_readProduct_72 rfl (lv_at hl 0 rfl) ?_
              refine k_calli (As := [.int (iI z37)]) (rest := []) ⟨hx, hb, hml, hown, hts⟩ hE (kc_X8_add l dC dI cB cI cJ cZ cQ aL aS q _ ta z37 hI hta (rb f40 (by decide) (by decide))) (cwV 1 hts (goodVk (wk_in_7 _ (List.mem_of_getElem? (i := 33) rfl)) (wk_in_7 _ (List.mem_of_getElem? (i := 34) rfl)) (wk_in_7 _ (List.mem_of_getElem? (i := 35) rfl)) (wk_in_1 _ (List.mem_of_getElem? (i := 35) rfl)) (wk_in_7 _ (List.mem_of_getElem? (i := 36) rfl))) rfl rfl rfl (by decide +kernel) ⟨by show (0) + 1 ≤ 10 * (9 - b) + 8; omega, by show 8 + (2 + 11) + (0) ≤ 400 * (9 - b) + 120; omega⟩) hK hDD hA0 hP hS ta 8 (wkE hta) rfl rfl hl.1 (Nat.le_of_ble_eq_true rfl) dX5_readProduct_73 (fun z49 A50 H locs hw51 hP hS => ?_)
              obtain ⟨hI, hf52, hw51⟩ := hw51
              refine lv_if_ne (tgt := 81) hx hb dX5_readProduct_76 (by decide) (fun c53 => ?_) (fun c53 => ?_)
              · have c53 : ¬ z49 = 0 := mt (i_eq0 (rb hw51 (by decide) (by decide))).mpr c53
                refine lv_iinc (v := iI (z8 + 1)) (lv' := [(2, .int (iI (z8 + 1))), (3, .int (iI z37)), (0, .ref (q 3)), (1, .ref (q ta))]) hx hb dX5_readProduct_81 hl (k := 1) rfl (i_inc (by omega)) (by decide) rfl (fun ls hl => ?_)
                refine lv_goto (tgt := 12) hx hb dX5_readProduct_84 (by decide) ?_
                have e54 : A50 3 4 = (A44 3 4) := (hf52 3 4 rfl rfl)
                exact ih12 _ (by omega) (z8 + 1) _ _ _ _ (by omega) (by omega) rfl hI (fk.trans (fk.trans (fk.trans (fk.trans (fk.trans (fk.rf) hj9 rfl rfl) hf21 rfl rfl) hj38 rfl rfl) hf46 rfl rfl) hf52 rfl rfl) hP hS (lv_sub hl [0, 2, 3] rfl)
              · have c53 : z49 = 0 := (i_eq0 (rb hw51 (by decide) (by decide))).mp c53
                refine lv_iconst (v := iI 0) hx hb dX5_readProduct_79 (by decide +kernel) ?_
                have e55 : A50 3 4 = (A44 3 4) := (hf52 3 4 rfl rfl)
                exact RET 0 _ _ _ _ _ ⟨hI, fk.trans (fk.trans (fk.trans (fk.trans (fk.trans (fk.trans (fk.rf) hf5 rfl rfl) hj9 rfl rfl) hf21 rfl rfl) hj38 rfl rfl) hf46 rfl rfl) hf52 rfl rfl, by omega⟩ hP hS dX5_readProduct_80
          refine lv_if_eq (tgt := 37) hx hb dX5_readProduct_28 (by decide) (fun c22 => ?_) (fun c22 => ?_)
          · have c22 : z18 = 0 := (i_eq0 (rb hw20 (by decide) (by decide))).mp c22
            refine lv_aload_n hx hb dX5_readProduct_37 rfl (lv_at hl 2 rfl) ?_
            refine lv_bipush (v := iI 37) hx hb dX5_readProduct_38 (by decide +kernel) ?_
            refine k_calli (As := [.int (iI 37)]) (rest := []) ⟨hx, hb, hml, hown, hts⟩ hE (kc_X5_passesSign l dC dI cB cI cJ cZ cQ aL aS q _ 37 hI ⟨by decide, by decide⟩) (cwV 1 hts (goodVk (wk_in_7 _ (List.mem_of_getElem? (i := 42) rfl)) (wk_in_7 _ (List.mem_of_getElem? (i := 43) rfl)) (wk_in_7 _ (List.mem_of_getElem? (i := 44) rfl)) (wk_in_5 _ (List.mem_of_getElem? (i := 28) rfl)) (wk_in_7 _ (List.mem_of_getElem? (i := 45) rfl))) rfl rfl rfl (by decide +kernel) ⟨by show (2) + 1 ≤ 10 * (9 - b) + 8; omega, by show 8 + (2 + 11) + (45) ≤ 400 * (9 - b) + 120; omega⟩) hK hDD hA0 hP hS 3 5 (wkRD) rfl rfl hl.1 (Nat.le_of_ble_eq_true rfl) dX5_readProduct_40 (fun z24 A25 H locs hw26 hP hS => ?_)
            obtain ⟨hI, hf27, hw26⟩ := hw26
            refine lv_if_eq (tgt := 52) hx hb dX5_readProduct_43 (by decide) (fun c28 => ?_) (fun c28 => ?_)
            · have c28 : z24 = 0 := (i_eq0 (rb hw26 (by decide) (by decide))).mp c28
              refine lv_aload_n hx hb dX5_readProduct_52 rfl (lv_at hl 2 rfl) ?_
              refine lv_bipush (v := iI 42) hx hb dX5_readProduct_53 (by decide +kernel) ?_
              refine k_calli (As := [.int (iI 42)]) (rest := []) ⟨hx, hb, hml, hown, hts⟩ hE (kc_X5_passesSign l dC dI cB cI cJ cZ cQ aL aS q _ 42 hI ⟨by decide, by decide⟩) (cwV 1 hts (goodVk (wk_in_7 _ (List.mem_of_getElem? (i := 42) rfl)) (wk_in_7 _ (List.mem_of_getElem? (i := 43) rfl)) (wk_in_7 _ (List.mem_of_getElem? (i := 44) rfl)) (wk_in_5 _ (List.mem_of_getElem? (i := 28) rfl)) (wk_in_7 _ (List.mem_of_getElem? (i := 45) rfl))) rfl rfl rfl (by decide +kernel) ⟨by show (2) + 1 ≤ 10 * (9 - b) + 8; omega, by show 8 + (2 + 11) + (45) ≤ 400 * (9 - b) + 120; omega⟩) hK hDD hA0 hP hS 3 5 (wkRD) rfl rfl hl.1 (Nat.le_of_ble_eq_true rfl) dX5_readProduct_55 (fun z29 A30 H locs hw31 hP hS => ?_)
              obtain ⟨hI, hf32, hw31⟩ := hw31
              refine lv_if_ne (tgt := 63) hx hb dX5_readProduct_58 (by decide) (fun c33 => ?_) (fun c33 => ?_)
              · have c33 : ¬ z29 = 0 := mt (i_eq0 (rb hw31 (by decide) (by decide))).mpr c33
                exact J63_23 (-14) _ _ _ _ (by omega) hI (fk.trans (fk.trans (fk.rf) hf27 rfl rfl) hf32 rfl rfl) hP hS (lv_sub hl [0, 1, 2, 3] rfl)
              · have c33 : z29 = 0 := (i_eq0 (rb hw31 (by decide) (by decide))).mp c33
                refine lv_iconst (v := iI 1) hx hb dX5_readProduct_61 (by decide +kernel) ?_
                have e36 : A19 3 4 = (A10 3 4) := (hf21 3 4 rfl rfl)
                have e35 : A25 3 4 = (A10 3 4) := (hf27 3 4 rfl rfl).trans e36
                have e34 : A30 3 4 = (A10 3 4) := (hf32 3 4 rfl rfl).trans e35
                exact RET 1 _ _ _ _ _ ⟨hI, fk.trans (fk.trans (fk.trans (fk.trans (fk.trans (fk.rf) hf5 rfl rfl) hj9 rfl rfl) hf21 rfl rfl) hf27 rfl rfl) hf32 rfl rfl, by omega⟩ hP hS dX5_readProduct_62
            · have c28 : ¬ z24 = 0 := mt (i_eq0 (rb hw26 (by decide) (by decide))).mpr c28
              refine lv_bipush (v := iI (-16)) hx hb dX5_readProduct_46 (by decide +kernel) ?_
              refine lv_istore_n (lv' := [(3, .int (iI (-16))), (2, .int (iI z8)), (0, .ref (q 3)), (1, .ref (q ta))]) hx hb dX5_readProduct_48 rfl hl (by decide) rfl (fun ls hl => ?_)
              refine lv_goto (tgt := 63) hx hb dX5_readProduct_49 (by decide) ?_
              exact J63_23 (-16) _ _ _ _ (by omega) hI (fk.trans (fk.rf) hf27 rfl rfl) hP hS (lv_sub hl [0, 1, 2, 3] rfl)
          · have c22 : ¬ z18 = 0 := mt (i_eq0 (rb hw20 (by decide) (by decide))).mpr c22
            refine lv_bipush (v := iI (-15)) hx hb dX5_readProduct_31 (by decide +kernel) ?_
            refine lv_istore_n (lv' := [(3, .int (iI (-15))), (2, .int (iI z8)), (0, .ref (q 3)), (1, .ref (q ta))]) hx hb dX5_readProduct_33 rfl hl (by decide) rfl (fun ls hl => ?_)
            refine lv_goto (tgt := 63) hx hb dX5_readProduct_34 (by decide) ?_
            exact J63_23 (-15) _ _ _ _ (by omega) hI (fk.rf) hP hS (lv_sub hl [0, 1, 2, 3] rfl)
    exact L12_11 _ 0 _ _ _ _ (by omega) (by omega) rfl hI (fk.rf) hP hS (lv_sub hl [0, 1, 2] rfl)
  · have c7 : z2 = 0 := (i_eq0 (rb rz2 (by decide) (by decide))).mp c7
    clear hw4
    refine lv_iconst (v := iI 0) hx hb dX5_readProduct_8 (by decide +kernel) ?_
    exact RET 0 _ _ _ _ _ ⟨hI, fk.trans (fk.rf) hf5 rfl rfl, by omega⟩ hP hS dX5_readProduct_9

set_option maxHeartbeats 4000000 in
set_option maxRecDepth 100000 in
theorem kc_X5_readSum (l : Launch) (dC : Nat → ClassId) (dI : Nat → Nat → Nat) (cB cI cJ cZ cQ : ClassId) (aL aS : Nat) (q : Nat → Nat) (b : Nat) (A : St) (ta : Nat) (hI : IK A) (hta : isE ta) (hp0 : A 3 4 = (b : Int)) (hp1 : b ≤ 8) (IHs : ∀ A : St, IK A → A 3 4 = (b : Int) + 1 → b + 1 ≤ 8 → KMi l yX5_readSum ws_kc_X5_readSum (rqm 4 (b + 1)) aL aS (dC, dI) (tyA cB cI cJ cZ cQ) (WK cB cI cJ cZ cQ q) A [.ref (q 3), .ref (q ta)] (fun z u => IK u ∧ fk [71, 102] [(3, 2), (3, 3), (3, 4), (5, 1), (5, 2), (5, 3), (5, 4), (5, 5), (5, 6), (70, 2), (101, 2)] A u ∧ ((0 ≤ z ∧ z ≤ 1) ∧ (z = 1 → u 3 4 = A 3 4)))) : KMi l yX5_readSum ws_kc_X5_readSum (rqm 4 b) aL aS (dC, dI) (tyA cB cI cJ cZ cQ) (WK cB cI cJ cZ cQ q) A [.ref (q 3), .ref (q ta)] (fun z u => IK u ∧ fk [71, 102] [(3, 2), (3, 3), (3, 4), (5, 1), (5, 2), (5, 3), (5, 4), (5, 5), (5, 6), (70, 2), (101, 2)] A u ∧ ((0 ≤ z ∧ z ≤ 1) ∧ (z = 1 → u 3 4 = A 3 4))) := by
  refine k_metz (cc := cX5_readSum) (maxL := 4) WK_adr (plainFor_of_name (by decide +kernel)) rfl (Nat.le_of_ble_eq_true rfl) (fun z u h => h.2.2.1) (fun p e s m below meth c Q AS ls hx hb hml hown hts hK hDD hA0 hE RET H locs hP hS hl => ?_)
  have hown : s.vm.findClass RX5 = some m.cls := hown
  have hl : lv_has ls 4 [(0, .ref (q 3)), (1, .ref (q ta))] := hl
  refine lv_aload_n hx hb dX5_readSum_0 rfl (lv_at hl 0 rfl) ?_
  refine lv_aload_n hx hb dX5_readSum_1 rfl (lv_at hl 1 rfl) ?_
  have r1 : (0 : Int) ≤ (A 3 4) ∧ (A 3 4) ≤ 8 := irRD_4 hI
  refine k_calli (As := [.ref (q ta)]) (rest := []) ⟨hx, hb, hml, hown, hts⟩ hE (kc_X5_readProduct l dC dI cB cI cJ cZ cQ aL aS q b _ ta hI hta (by omega) (by omega) IHs) (cwV 1 hts (goodVk (wk_in_8 _ (List.mem_of_getElem? (i := 5) rfl)) (wk_in_8 _ (List.mem_of_getElem? (i := 6) rfl)) (wk_in_8 _ (List.mem_of_getElem? (i := 7) rfl)) (wk_in_5 _ (List.mem_of_getElem? (i := 28) rfl)) (wk_in_8 _ (List.mem_of_getElem? (i := 13) rfl))) rfl rfl rfl (by decide +kernel) ⟨by show (10 * (9 - b) + 8) + 1 ≤ 10 * (9 - b) + 9; omega, by show 8 + (4 + 11) + (400 * (9 - b) + 120) ≤ 400 * (9 - b) + 160; omega⟩) hK hDD hA0 hP hS 3 5 (wkRD) rfl rfl hl.1 (Nat.le_of_ble_eq_true rfl) dX5_readSum_2 (fun z2 A3 H locs hw4 hP hS => ?_)
  obtain ⟨hI, hf5, hw4⟩ := hw4
  have r6 : (0 : Int) ≤ (A3 3 4) ∧ (A3 3 4) ≤ 8 := irRD_4 hI
  have rz2 : 0 ≤ z2 ∧ z2 ≤ 1 := hw4.1
  have hw4 := hw4.2
  refine lv_if_ne (tgt := 10) hx hb dX5_readSum_5 (by decide) (fun c7 => ?_) (fun c7 => ?_)
  · have c7 : ¬ z2 = 0 := mt (i_eq0 (rb rz2 (by decide) (by decide))).mpr c7
    have hw4b := hw4 (by omega)
    clear hw4
    refine lv_iconst (v := iI 0) hx hb dX5_readSum_10 (by decide +kernel) ?_
    refine lv_istore_n (lv' := [(2, .int (iI 0)), (0, .ref (q 3)), (1, .ref (q ta))]) hx hb dX5_readSum_11 rfl hl (by decide) rfl (fun ls hl => ?_)
    have L12_11 : ∀ (n15 : Nat) (z8 : Int) (A10 : St) (H : Heap) (locs : List Loc) (ls : Array Slot), (0 ≤ z8 ∧ z8 ≤ 2147483647) → (A10 3 4 = A 3 4) → ((1601 - z8).toNat = n15) → IK A10 → fk [71, 102] [(3, 2), (3, 3), (3, 4), (5, 1), (5, 2), (5, 3), (5, 4), (5, 5), (5, 6), (70, 2), (101, 2)] A3 A10 → va_P (dC, dI) vwCl (WK cB cI cJ cZ cQ q A10) H → va_S AS s.heap H locs → lv_has ls 4 [(2, .int (iI z8)), (0, .ref (q 3)), (1, .ref (q ta))] → W p l e (headSpec ws_kc_X5_readSum (rqm 4 b)).room s m [.ref (q 3), .ref (q ta)].toArray below meth c H locs 0 0 Q (F0 m 12 ls []) := by
      intro n15
      induction n15 using Nat.strongRecOn with
      | ind n15 ih12 =>
        intro z8 A10 H locs ls f13 f14 hn15 hI hj9 hP hS hl
        have r16 : (0 : Int) ≤ (A10 3 4) ∧ (A10 3 4) ≤ 8 := irRD_4 hI
        refine lv_iload_n hx hb dX5_readSum_12 rfl (lv_at hl 0 rfl) ?_
        refine lv_sipush (v := iI 1600) hx hb dX5_readSum_13 (by decide +kernel) ?_
        refine lv_icmp_ge (tgt := 72) hx hb dX5_readSum_16 (by decide) (fun c17 => ?_) (fun c17 => ?_)
        · have c17 : 1600 ≤ z8 := (i_le ⟨by decide, by decide⟩ (rb f13 (by decide) (by decide))).mp c17
          refine lv_iconst (v := iI 0) hx hb dX5_readSum_72 (by decide +kernel) ?_
          exact RET 0 _ _ _ _ _ ⟨hI, fk.trans (fk.trans (fk.rf) hf5 rfl rfl) hj9 rfl rfl, by omega⟩ hP hS dX5_readSum_73
        · have c17 : ¬ 1600 ≤ z8 := mt (i_le ⟨by decide, by decide⟩ (rb f13 (by decide) (by decide))).mpr c17
          refine lv_bipush (v := iI (-12)) hx hb dX5_readSum_19 (by decide +kernel) ?_
          refine lv_istore_n (lv' := [(3, .int (iI (-12))), (2, .int (iI z8)), (0, .ref (q 3)), (1, .ref (q ta))]) hx hb dX5_readSum_21 rfl hl (by decide) rfl (fun ls hl => ?_)
          refine lv_aload_n hx hb dX5_readSum_22 rfl (lv_at hl 2 rfl) ?_
          refine lv_bipush (v := iI 45) hx hb dX5_readSum_23 (by decide +kernel) ?_
          refine k_calli (As := [.int (iI 45)]) (rest := []) ⟨hx, hb, hml, hown, hts⟩ hE (kc_X5_passesSign l dC dI cB cI cJ cZ cQ aL aS q _ 45 hI ⟨by decide, by decide⟩) (cwV 1 hts (goodVk (wk_in_7 _ (List.mem_of_getElem? (i := 42) rfl)) (wk_in_7 _ (List.mem_of_getElem? (i := 43) rfl)) (wk_in_7 _ (List.mem_of_getElem? (i := 44) rfl)) (wk_in_5 _ (List.mem_of_getElem? (i := 28) rfl)) (wk_in_7 _ (List.mem_of_getElem? (i := 45) rfl))) rfl rfl rfl (by decide +kernel) ⟨by show (2) + 1 ≤ 10 * (9 - b) + 9; omega, by show 8 + (2 + 11) + (45) ≤ 400 * (9 - b) + 160; omega⟩) hK hDD hA0 hP hS 3 5 (wkRD) rfl rfl hl.1 (Nat.le_of_ble_eq_true rfl) dX5_readSum_25 (fun z18 A19 H locs hw20 hP hS => ?_)
          obtain ⟨hI, hf21, hw20⟩ := hw20
          have J48_23 : ∀ (z31 : Int) (A33 : St) (H : Heap) (locs : List Loc) (ls : Array Slot), (-13 ≤ z31 ∧ z31 ≤ -12) → IK A33 → fk [] [(5, 1), (5, 2), (5, 3), (5, 4), (5, 5), (5, 6)] A19 A33 → va_P (dC, dI) vwCl (WK cB cI cJ cZ cQ q A33) H → va_S AS s.heap H locs → lv_has ls 4 [(3, .int (iI z31)), (2, .int (iI z8)), (0, .ref (q 3)), (1, .ref (q ta))] → W p l e (headSpec ws_kc_X5_readSum (rqm 4 b)).room s m [.ref (q 3), .ref (q ta)].toArray below meth c H locs 0 0 Q (F0 m 48 ls []) := by
            intro z31 A33 H locs ls f34 hI hj32 hP hS hl
            refine lv_aload_n hx hb dX5_readSum_48 rfl (lv_at hl 2 rfl) ?_
            refine lv_aload_n hx hb dX5_readSum_49 rfl (lv_at hl 3 rfl) ?_
            have e36 : A19 3 4 = (A10 3 4) := (hf21 3 4 rfl rfl)
            have e35 : A33 3 4 = (A10 3 4) := (hj32 3 4 rfl rfl).trans e36
            refine k_calli (As := [.ref (q ta)]) (rest := []) ⟨hx, hb, hml, hown, hts⟩ hE (kc_X5_readProduct l dC dI cB cI cJ cZ cQ aL aS q b _ ta hI hta (by omega) (by omega) IHs) (cwV 1 hts (goodVk (wk_in_8 _ (List.mem_of_getElem? (i := 5) rfl)) (wk_in_8 _ (List.mem_of_getElem? (i := 6) rfl)) (wk_in_8 _ (List.mem_of_getElem? (i := 7) rfl)) (wk_in_5 _ (List.mem_of_getElem? (i := 28) rfl)) (wk_in_8 _ (List.mem_of_getElem? (i := 13) rfl))) rfl rfl rfl (by decide +kernel) ⟨by show (10 * (9 - b) + 8) + 1 ≤ 10 * (9 - b) + 9; omega, by show 8 + (4 + 11) + (400 * (9 - b) + 120) ≤ 400 * (9 - b) + 160; omega⟩) hK hDD hA0 hP hS 3 5 (wkRD) rfl rfl hl.1 (Nat.le_of_ble_eq_true rfl) dX5_readSum_50 (fun z37 A38 H locs hw39 hP hS => ?_)
            obtain ⟨hI, hf40, hw39⟩ := hw39
            have r41 : (0 : Int) ≤ (A38 3 4) ∧ (A38 3 4) ≤ 8 := irRD_4 hI
            have rz37 : 0 ≤ z37 ∧ z37 ≤ 1 := hw39.1
            have hw39 := hw39.2
            refine lv_if_eq (tgt := 64) hx hb dX5_readSum_53 (by decide) (fun c42 => ?_) (fun c42 => ?_)
            · have c42 : z37 = 0 := (i_eq0 (rb rz37 (by decide) (by decide))).mp c42
              clear hw39
              refine lv_iconst (v := iI 0) hx hb dX5_readSum_64 (by decide +kernel) ?_
              exact RET 0 _ _ _ _ _ ⟨hI, fk.trans (fk.trans (fk.trans (fk.trans (fk.trans (fk.rf) hf5 rfl rfl) hj9 rfl rfl) hf21 rfl rfl) hj32 rfl rfl) hf40 rfl rfl, by omega⟩ hP hS dX5_readSum_65
            · have c42 : ¬ z37 = 0 := mt (i_eq0 (rb rz37 (by decide) (by decide))).mpr c42
              have hw39b := hw39 (by omega)
              clear hw39
              refine lv_aload_n hx hb dX5_readSum_56 rfl (lv_at hl 3 rfl) ?_
              refine lv_iload_n hx hb dX5_readSum_57 rfl (lv_at hl 0 rfl) ?_
              refine k_calli (As := [.int (iI z31)]) (rest := []) ⟨hx, hb, hml, hown, hts⟩ hE (kc_X8_add l dC dI cB cI cJ cZ cQ aL aS q _ ta z31 hI hta (rb f34 (by decide) (by decide))) (cwV 1 hts (goodVk (wk_in_7 _ (List.mem_of_getElem? (i := 33) rfl)) (wk_in_7 _ (List.mem_of_getElem? (i := 34) rfl)) (wk_in_7 _ (List.mem_of_getElem? (i := 35) rfl)) (wk_in_1 _ (List.mem_of_getElem? (i := 35) rfl)) (wk_in_7 _ (List.mem_of_getElem? (i := 36) rfl))) rfl rfl rfl (by decide +kernel) ⟨by show (0) + 1 ≤ 10 * (9 - b) + 9; omega, by show 8 + (2 + 11) + (0) ≤ 400 * (9 - b) + 160; omega⟩) hK hDD hA0 hP hS ta 8 (wkE hta) rfl rfl hl.1 (Nat.le_of_ble_eq_true rfl) dX5_readSum_58 (fun z43 A44 H locs hw45 hP hS => ?_)
              obtain ⟨hI, hf46, hw45⟩ := hw45
              refine lv_if_ne (tgt := 66) hx hb dX5_readSum_61 (by decide) (fun c47 => ?_) (fun c47 => ?_)
              · have c47 : ¬ z43 = 0 := mt (i_eq0 (rb hw45 (by decide) (by decide))).mpr c47
                refine lv_iinc (v := iI (z8 + 1)) (lv' := [(2, .int (iI (z8 + 1))), (3, .int (iI z31)), (0, .ref (q 3)), (1, .ref (q ta))]) hx hb dX5_readSum_66 hl (k := 1) rfl (i_inc (by omega)) (by decide) rfl (fun ls hl => ?_)
                refine lv_goto (tgt := 12) hx hb dX5_readSum_69 (by decide) ?_
                have e48 : A44 3 4 = (A38 3 4) := (hf46 3 4 rfl rfl)
                exact ih12 _ (by omega) (z8 + 1) _ _ _ _ (by omega) (by omega) rfl hI (fk.trans (fk.trans (fk.trans (fk.trans (fk.trans (fk.rf) hj9 rfl rfl) hf21 rfl rfl) hj32 rfl rfl) hf40 rfl rfl) hf46 rfl rfl) hP hS (lv_sub hl [0, 2, 3] rfl)
              · have c47 : z43 = 0 := (i_eq0 (rb hw45 (by decide) (by decide))).mp c47
                refine lv_iconst (v := iI 0) hx hb dX5_readSum_64 (by decide +kernel) ?_
                have e49 : A44 3 4 = (A38 3 4) := (hf46 3 4 rfl rfl)
                exact RET 0 _ _ _ _ _ ⟨hI, fk.trans (fk.trans (fk.trans (fk.trans (fk.trans (fk.trans (fk.rf) hf5 rfl rfl) hj9 rfl rfl) hf21 rfl rfl) hj32 rfl rfl) hf40 rfl rfl) hf46 rfl rfl, by omega⟩ hP hS dX5_readSum_65
          refine lv_if_eq (tgt := 37) hx hb dX5_readSum_28 (by decide) (fun c22 => ?_) (fun c22 => ?_)
          · have c22 : z18 = 0 := (i_eq0 (rb hw20 (by decide) (by decide))).mp c22
            refine lv_aload_n hx hb dX5_readSum_37 rfl (lv_at hl 2 rfl) ?_
            refine lv_bipush (v := iI 43) hx hb dX5_readSum_38 (by decide +kernel) ?_
            refine k_calli (As := [.int (iI 43)]) (rest := []) ⟨hx, hb, hml, hown, hts⟩ hE (kc_X5_passesSign l dC dI cB cI cJ cZ cQ aL aS q _ 43 hI ⟨by decide, by decide⟩) (cwV 1 hts (goodVk (wk_in_7 _ (List.mem_of_getElem? (i := 42) rfl)) (wk_in_7 _ (List.mem_of_getElem? (i := 43) rfl)) (wk_in_7 _ (List.mem_of_getElem? (i := 44) rfl)) (wk_in_5 _ (List.mem_of_getElem? (i := 28) rfl)) (wk_in_7 _ (List.mem_of_getElem? (i := 45) rfl))) rfl rfl rfl (by decide +kernel) ⟨by show (2) + 1 ≤ 10 * (9 - b) + 9; omega, by show 8 + (2 + 11) + (45) ≤ 400 * (9 - b) + 160; omega⟩) hK hDD hA0 hP hS 3 5 (wkRD) rfl rfl hl.1 (Nat.le_of_ble_eq_true rfl) dX5_readSum_40 (fun z24 A25 H locs hw26 hP hS => ?_)
            obtain ⟨hI, hf27, hw26⟩ := hw26
            refine lv_if_ne (tgt := 48) hx hb dX5_readSum_43 (by decide) (fun c28 => ?_) (fun c28 => ?_)
            · have c28 : ¬ z24 = 0 := mt (i_eq0 (rb hw26 (by decide) (by decide))).mpr c28
              exact J48_23 (-12) _ _ _ _ (by omega) hI (fk.trans (fk.rf) hf27 rfl rfl) hP hS (lv_sub hl [0, 1, 2, 3] rfl)
            · have c28 : z24 = 0 := (i_eq0 (rb hw26 (by decide) (by decide))).mp c28
              refine lv_iconst (v := iI 1) hx hb dX5_readSum_46 (by decide +kernel) ?_
              have e30 : A19 3 4 = (A10 3 4) := (hf21 3 4 rfl rfl)
              have e29 : A25 3 4 = (A10 3 4) := (hf27 3 4 rfl rfl).trans e30
              exact RET 1 _ _ _ _ _ ⟨hI, fk.trans (fk.trans (fk.trans (fk.trans (fk.rf) hf5 rfl rfl) hj9 rfl rfl) hf21 rfl rfl) hf27 rfl rfl, by omega⟩ hP hS dX5_readSum_47
          · have c22 : ¬ z18 = 0 := mt (i_eq0 (rb hw20 (by decide) (by decide))).mpr c22
            refine lv_bipush (v := iI (-13)) hx hb dX5_readSum_31 (by decide +kernel) ?_
            refine lv_istore_n (lv' := [(3, .int (iI (-13))), (2, .int (iI z8)), (0, .ref (q 3)), (1, .ref (q ta))]) hx hb dX5_readSum_33 rfl hl (by decide) rfl (fun ls hl => ?_)
            refine lv_goto (tgt := 48) hx hb dX5_readSum_34 (by decide) ?_
            exact J48_23 (-13) _ _ _ _ (by omega) hI (fk.rf) hP hS (lv_sub hl [0, 1, 2, 3] rfl)
    exact L12_11 _ 0 _ _ _ _ (by omega) (by omega) rfl hI (fk.rf) hP hS (lv_sub hl [0, 1, 2] rfl)
  · have c7 : z2 = 0 := (i_eq0 (rb rz2 (by decide) (by decide))).mp c7
    clear hw4
    refine lv_iconst (v := iI 0) hx hb dX5_readSum_8 (by decide +kernel) ?_
    exact RET 0 _ _ _ _ _ ⟨hI, fk.trans (fk.rf) hf5 rfl rfl, by omega⟩ hP hS dX5_readSum_9

theorem kq_sum (l : Launch) (dC : Nat → ClassId) (dI : Nat → Nat → Nat) (cB cI cJ cZ cQ : ClassId) (aL aS : Nat) (q : Nat → Nat) (ta : Nat) (hta : isE ta) : ∀ n b : Nat, 8 - b = n → b ≤ 8 → ∀ A : St, IK A → A 3 4 = (b : Int) → KMi l yX5_readSum ws_kc_X5_readSum (rqm 4 b) aL aS (dC, dI) (tyA cB cI cJ cZ cQ) (WK cB cI cJ cZ cQ q) A [.ref (q 3), .ref (q ta)] (fun z u => IK u ∧ fk [71, 102] [(3, 2), (3, 3), (3, 4), (5, 1), (5, 2), (5, 3), (5, 4), (5, 5), (5, 6), (70, 2), (101, 2)] A u ∧ ((0 ≤ z ∧ z ≤ 1) ∧ (z = 1 → u 3 4 = A 3 4))) := by
  intro n
  induction n with
  | zero => exact fun b hb hb8 A hI h => kc_X5_readSum l dC dI cB cI cJ cZ cQ aL aS q b A ta hI hta h hb8 (fun A hI h h8 => absurd h8 (by omega))
  | succ n ih => exact fun b hb hb8 A hI h => kc_X5_readSum l dC dI cB cI cJ cZ cQ aL aS q b A ta hI hta h hb8 (fun A hI h h8 => ih (b + 1) (by omega) h8 A hI (by omega))

set_option maxHeartbeats 4000000 in
set_option maxRecDepth 100000 in
theorem kc_X5_readFact (l : Launch) (dC : Nat → ClassId) (dI : Nat → Nat → Nat) (cB cI cJ cZ cQ : ClassId) (aL aS : Nat) (q : Nat → Nat) (b : Nat) (A : St) (ta : Nat) (hI : IK A) (hta : isE ta) (hp0 : A 3 4 = (b : Int)) (hp1 : b ≤ 8) (IHt : ∀ A : St, IK A → A 3 4 = (b : Int) + 1 → b + 1 ≤ 8 → KMi l yX5_readTest ws_kc_X5_readTest (rqm 7 (b + 1)) aL aS (dC, dI) (tyA cB cI cJ cZ cQ) (WK cB cI cJ cZ cQ q) A [.ref (q 3), .ref (q ta)] (fun z u => IK u ∧ fk [71, 102] [(3, 2), (3, 3), (3, 4), (5, 1), (5, 2), (5, 3), (5, 4), (5, 5), (5, 6), (70, 2), (101, 2)] A u ∧ ((0 ≤ z ∧ z ≤ 1) ∧ (z = 1 → u 3 4 = A 3 4)))) : KMi l yX5_readFact ws_kc_X5_readFact (rqm 5 b) aL aS (dC, dI) (tyA cB cI cJ cZ cQ) (WK cB cI cJ cZ cQ q) A [.ref (q 3), .ref (q ta)] (fun z u => IK u ∧ fk [71, 102] [(3, 2), (3, 3), (3, 4), (5, 1), (5, 2), (5, 3), (5, 4), (5, 5), (5, 6), (70, 2), (101, 2)] A u ∧ ((0 ≤ z ∧ z ≤ 1) ∧ (z = 1 → u 3 4 = A 3 4))) := by
  refine k_metz (cc := cX5_readFact) (maxL := 5) WK_adr (plainFor_of_name (by decide +kernel)) rfl (Nat.le_of_ble_eq_true rfl) (fun z u h => h.2.2.1) (fun p e s m below meth c Q AS ls hx hb hml hown hts hK hDD hA0 hE RET H locs hP hS hl => ?_)
  have hown : s.vm.findClass RX5 = some m.cls := hown
  have hl : lv_has ls 5 [(0, .ref (q 3)), (1, .ref (q ta))] := hl
  refine lv_iconst (v := iI 0) hx hb dX5_readFact_0 (by decide +kernel) ?_
  refine lv_istore_n (lv' := [(2, .int (iI 0)), (0, .ref (q 3)), (1, .ref (q ta))]) hx hb dX5_readFact_1 rfl hl (by decide) rfl (fun ls hl => ?_)
  refine lv_iconst (v := iI 0) hx hb dX5_readFact_2 (by decide +kernel) ?_
  refine lv_istore_n (lv' := [(3, .int (iI 0)), (2, .int (iI 0)), (0, .ref (q 3)), (1, .ref (q ta))]) hx hb dX5_readFact_3 rfl hl (by decide) rfl (fun ls hl => ?_)
  have L4_5 : ∀ (n9 : Nat) (z1 z2 : Int) (A4 : St) (H : Heap) (locs : List Loc) (ls : Array Slot), (0 ≤ z1 ∧ z1 ≤ 2147483647) → (0 ≤ z2 ∧ z2 ≤ 1) → ((1601 - z1).toNat = n9) → IK A4 → fk [] [(5, 1), (5, 2), (5, 3), (5, 4), (5, 5), (5, 6)] A A4 → va_P (dC, dI) vwCl (WK cB cI cJ cZ cQ q A4) H → va_S AS s.heap H locs → lv_has ls 5 [(3, .int (iI z1)), (2, .int (iI z2)), (0, .ref (q 3)), (1, .ref (q ta))] → W p l e (headSpec ws_kc_X5_readFact (rqm 5 b)).room s m [.ref (q 3), .ref (q ta)].toArray below meth c H locs 0 0 Q (F0 m 4 ls []) := by
    intro n9
    induction n9 using Nat.strongRecOn with
    | ind n9 ih6 =>
      intro z1 z2 A4 H locs ls f7 f8 hn9 hI hj3 hP hS hl
      refine lv_iload_n hx hb dX5_readFact_4 rfl (lv_at hl 0 rfl) ?_
      refine lv_sipush (v := iI 1600) hx hb dX5_readFact_5 (by decide +kernel) ?_
      have J36_11 : ∀ (A23 : St) (H : Heap) (locs : List Loc) (ls : Array Slot), IK A23 → fk [] [(5, 1), (5, 2), (5, 3), (5, 4), (5, 5), (5, 6)] A4 A23 → va_P (dC, dI) vwCl (WK cB cI cJ cZ cQ q A23) H → va_S AS s.heap H locs → lv_has ls 5 [(3, .int (iI z1)), (2, .int (iI z2)), (0, .ref (q 3)), (1, .ref (q ta))] → W p l e (headSpec ws_kc_X5_readFact (rqm 5 b)).room s m [.ref (q 3), .ref (q ta)].toArray below meth c H locs 0 0 Q (F0 m 36 ls []) := by
        intro A23 H locs ls hI hj22 hP hS hl
        refine lv_aload_n hx hb dX5_readFact_36 rfl (lv_at hl 2 rfl) ?_
        refine lv_bipush (v := iI 19) hx hb dX5_readFact_37 (by decide +kernel) ?_
        refine k_calli (As := [.int (iI 19)]) (rest := []) ⟨hx, hb, hml, hown, hts⟩ hE (kc_X5_passesWord l dC dI cB cI cJ cZ cQ aL aS q _ 19 hI ⟨by decide, by decide⟩) (cwV 1 hts (goodVk (wk_in_6 _ (List.mem_of_getElem? (i := 27) rfl)) (wk_in_6 _ (List.mem_of_getElem? (i := 28) rfl)) (wk_in_6 _ (List.mem_of_getElem? (i := 29) rfl)) (wk_in_5 _ (List.mem_of_getElem? (i := 28) rfl)) (wk_in_6 _ (List.mem_of_getElem? (i := 30) rfl))) rfl rfl rfl (by decide +kernel) ⟨by show (2) + 1 ≤ 10 * (9 - b) + 10; omega, by show 8 + (2 + 11) + (45) ≤ 400 * (9 - b) + 200; omega⟩) hK hDD hA0 hP hS 3 5 (wkRD) rfl rfl hl.1 (Nat.le_of_ble_eq_true rfl) dX5_readFact_39 (fun z24 A25 H locs hw26 hP hS => ?_)
        obtain ⟨hI, hf27, hw26⟩ := hw26
        have J153_29 : ∀ (z124 : Int) (A126 : St) (H : Heap) (locs : List Loc) (ls : Array Slot), (0 ≤ z124 ∧ z124 ≤ 1) → (z124 = 1 → A126 3 4 = A 3 4) → IK A126 → fk [71, 102] [(3, 2), (3, 3), (3, 4), (5, 1), (5, 2), (5, 3), (5, 4), (5, 5), (5, 6), (70, 2), (101, 2)] A25 A126 → va_P (dC, dI) vwCl (WK cB cI cJ cZ cQ q A126) H → va_S AS s.heap H locs → lv_has ls 5 [(3, .int (iI z124)), (2, .int (iI z2)), (0, .ref (q 3)), (1, .ref (q ta))] → W p l e (headSpec ws_kc_X5_readFact (rqm 5 b)).room s m [.ref (q 3), .ref (q ta)].toArray below meth c H locs 0 0 Q (F0 m 153 ls []) := by
          intro z124 A126 H locs ls f127 f128 hI hj125 hP hS hl
          refine lv_iload_n hx hb dX5_readFact_153 rfl (lv_at hl 0 rfl) ?_
          refine lv_if_eq (tgt := 174) hx hb dX5_readFact_154 (by decide) (fun c129 => ?_) (fun c129 => ?_)
          · have c129 : z124 = 0 := (i_eq0 (rb f127 (by decide) (by decide))).mp c129
            refine lv_iconst (v := iI 0) hx hb dX5_readFact_174 (by decide +kernel) ?_
            have r130 : (0 : Int) ≤ (A126 3 4) ∧ (A126 3 4) ≤ 8 := irRD_4 hI
            exact RET 0 _ _ _ _ _ ⟨hI, fk.trans (fk.trans (fk.trans (fk.trans (fk.rf) hj3 rfl rfl) hj22 rfl rfl) hf27 rfl rfl) hj125 rfl rfl, by omega⟩ hP hS dX5_readFact_175
          · have c129 : ¬ z124 = 0 := mt (i_eq0 (rb f127 (by decide) (by decide))).mpr c129
            refine lv_iload_n hx hb dX5_readFact_157 rfl (lv_at hl 1 rfl) ?_
            refine lv_if_eq (tgt := 170) hx hb dX5_readFact_158 (by decide) (fun c131 => ?_) (fun c131 => ?_)
            · have c131 : z2 = 0 := (i_eq0 (rb f8 (by decide) (by decide))).mp c131
              refine lv_iconst (v := iI 1) hx hb dX5_readFact_170 (by decide +kernel) ?_
              refine lv_goto (tgt := 175) hx hb dX5_readFact_171 (by decide) ?_
              have r132 : (0 : Int) ≤ (A126 3 4) ∧ (A126 3 4) ≤ 8 := irRD_4 hI
              exact RET 1 _ _ _ _ _ ⟨hI, fk.trans (fk.trans (fk.trans (fk.trans (fk.rf) hj3 rfl rfl) hj22 rfl rfl) hf27 rfl rfl) hj125 rfl rfl, by omega⟩ hP hS dX5_readFact_175
            · have c131 : ¬ z2 = 0 := mt (i_eq0 (rb f8 (by decide) (by decide))).mpr c131
              refine lv_aload_n hx hb dX5_readFact_161 rfl (lv_at hl 3 rfl) ?_
              refine lv_bipush (v := iI (-6)) hx hb dX5_readFact_162 (by decide +kernel) ?_
              refine k_calli (As := [.int (iI (-6))]) (rest := []) ⟨hx, hb, hml, hown, hts⟩ hE (kc_X8_add l dC dI cB cI cJ cZ cQ aL aS q _ ta (-6) hI hta ⟨by decide, by decide⟩) (cwV 1 hts (goodVk (wk_in_7 _ (List.mem_of_getElem? (i := 33) rfl)) (wk_in_7 _ (List.mem_of_getElem? (i := 34) rfl)) (wk_in_7 _ (List.mem_of_getElem? (i := 35) rfl)) (wk_in_1 _ (List.mem_of_getElem? (i := 35) rfl)) (wk_in_7 _ (List.mem_of_getElem? (i := 36) rfl))) rfl rfl rfl (by decide +kernel) ⟨by show (0) + 1 ≤ 10 * (9 - b) + 10; omega, by show 8 + (2 + 11) + (0) ≤ 400 * (9 - b) + 200; omega⟩) hK hDD hA0 hP hS ta 8 (wkE hta) rfl rfl hl.1 (Nat.le_of_ble_eq_true rfl) dX5_readFact_164 (fun z133 A134 H locs hw135 hP hS => ?_)
              obtain ⟨hI, hf136, hw135⟩ := hw135
              refine lv_if_eq (tgt := 174) hx hb dX5_readFact_167 (by decide) (fun c137 => ?_) (fun c137 => ?_)
              · have c137 : z133 = 0 := (i_eq0 (rb hw135 (by decide) (by decide))).mp c137
                refine lv_iconst (v := iI 0) hx hb dX5_readFact_174 (by decide +kernel) ?_
                have e138 : A134 3 4 = (A126 3 4) := (hf136 3 4 rfl rfl)
                have r139 : (0 : Int) ≤ (A126 3 4) ∧ (A126 3 4) ≤ 8 := by rw [← e138]; exact irRD_4 hI
                exact RET 0 _ _ _ _ _ ⟨hI, fk.trans (fk.trans (fk.trans (fk.trans (fk.trans (fk.rf) hj3 rfl rfl) hj22 rfl rfl) hf27 rfl rfl) hj125 rfl rfl) hf136 rfl rfl, by omega⟩ hP hS dX5_readFact_175
              · have c137 : ¬ z133 = 0 := mt (i_eq0 (rb hw135 (by decide) (by decide))).mpr c137
                refine lv_iconst (v := iI 1) hx hb dX5_readFact_170 (by decide +kernel) ?_
                refine lv_goto (tgt := 175) hx hb dX5_readFact_171 (by decide) ?_
                have e140 : A134 3 4 = (A126 3 4) := (hf136 3 4 rfl rfl)
                have r141 : (0 : Int) ≤ (A126 3 4) ∧ (A126 3 4) ≤ 8 := by rw [← e140]; exact irRD_4 hI
                exact RET 1 _ _ _ _ _ ⟨hI, fk.trans (fk.trans (fk.trans (fk.trans (fk.trans (fk.rf) hj3 rfl rfl) hj22 rfl rfl) hf27 rfl rfl) hj125 rfl rfl) hf136 rfl rfl, by omega⟩ hP hS dX5_readFact_175
        refine lv_if_eq (tgt := 55) hx hb dX5_readFact_42 (by decide) (fun c28 => ?_) (fun c28 => ?_)
        · have c28 : z24 = 0 := (i_eq0 (rb hw26 (by decide) (by decide))).mp c28
          refine lv_aload_n hx hb dX5_readFact_55 rfl (lv_at hl 2 rfl) ?_
          refine lv_bipush (v := iI 91) hx hb dX5_readFact_56 (by decide +kernel) ?_
          refine k_calli (As := [.int (iI 91)]) (rest := []) ⟨hx, hb, hml, hown, hts⟩ hE (kc_X5_passesSign l dC dI cB cI cJ cZ cQ aL aS q _ 91 hI ⟨by decide, by decide⟩) (cwV 1 hts (goodVk (wk_in_7 _ (List.mem_of_getElem? (i := 42) rfl)) (wk_in_7 _ (List.mem_of_getElem? (i := 43) rfl)) (wk_in_7 _ (List.mem_of_getElem? (i := 44) rfl)) (wk_in_5 _ (List.mem_of_getElem? (i := 28) rfl)) (wk_in_7 _ (List.mem_of_getElem? (i := 45) rfl))) rfl rfl rfl (by decide +kernel) ⟨by show (2) + 1 ≤ 10 * (9 - b) + 10; omega, by show 8 + (2 + 11) + (45) ≤ 400 * (9 - b) + 200; omega⟩) hK hDD hA0 hP hS 3 5 (wkRD) rfl rfl hl.1 (Nat.le_of_ble_eq_true rfl) dX5_readFact_58 (fun z30 A31 H locs hw32 hP hS => ?_)
          obtain ⟨hI, hf33, hw32⟩ := hw32
          refine lv_if_eq (tgt := 104) hx hb dX5_readFact_61 (by decide) (fun c34 => ?_) (fun c34 => ?_)
          · have c34 : z30 = 0 := (i_eq0 (rb hw32 (by decide) (by decide))).mp c34
            refine lv_aload_n hx hb dX5_readFact_104 rfl (lv_at hl 2 rfl) ?_
            refine lv_aload_n hx hb dX5_readFact_105 rfl (lv_at hl 3 rfl) ?_
            have e38 : A4 3 4 = (A 3 4) := (hj3 3 4 rfl rfl)
            have e37 : A23 3 4 = (A 3 4) := (hj22 3 4 rfl rfl).trans e38
            have e36 : A25 3 4 = (A 3 4) := (hf27 3 4 rfl rfl).trans e37
            have e35 : A31 3 4 = (A 3 4) := (hf33 3 4 rfl rfl).trans e36
            have r39 : (0 : Int) ≤ (A 3 4) ∧ (A 3 4) ≤ 8 := by rw [← e35]; exact irRD_4 hI
            refine k_calli (As := [.ref (q ta)]) (rest := []) ⟨hx, hb, hml, hown, hts⟩ hE (kq_sum l dC dI cB cI cJ cZ cQ aL aS q ta hta _ b rfl (by omega) _ hI (by omega)) (cwV 1 hts (goodVk (wk_in_8 _ (List.mem_of_getElem? (i := 1) rfl)) (wk_in_8 _ (List.mem_of_getElem? (i := 2) rfl)) (wk_in_8 _ (List.mem_of_getElem? (i := 3) rfl)) (wk_in_5 _ (List.mem_of_getElem? (i := 28) rfl)) (wk_in_8 _ (List.mem_of_getElem? (i := 4) rfl))) rfl rfl rfl (by decide +kernel) ⟨by show (10 * (9 - b) + 9) + 1 ≤ 10 * (9 - b) + 10; omega, by show 8 + (4 + 11) + (400 * (9 - b) + 160) ≤ 400 * (9 - b) + 200; omega⟩) hK hDD hA0 hP hS 3 5 (wkRD) rfl rfl hl.1 (Nat.le_of_ble_eq_true rfl) dX5_readFact_106 (fun z40 A41 H locs hw42 hP hS => ?_)
            obtain ⟨hI, hf43, hw42⟩ := hw42
            have r44 : (0 : Int) ≤ (A41 3 4) ∧ (A41 3 4) ≤ 8 := irRD_4 hI
            have rz40 : 0 ≤ z40 ∧ z40 ≤ 1 := hw42.1
            have hw42 := hw42.2
            refine lv_istore_n (lv' := [(3, .int (iI z40)), (2, .int (iI z2)), (0, .ref (q 3)), (1, .ref (q ta))]) hx hb dX5_readFact_109 rfl hl (by decide) rfl (fun ls hl => ?_)
            refine lv_iload_n hx hb dX5_readFact_110 rfl (lv_at hl 0 rfl) ?_
            have J122_46 : ∀ (z51 : Int) (A53 : St) (H : Heap) (locs : List Loc) (ls : Array Slot), (-2147483648 ≤ z51 ∧ z51 ≤ 2147483647) → (¬ z51 = -1 → A53 3 4 = A 3 4) → IK A53 → fk [] [(3, 2), (3, 3), (5, 1), (5, 2), (5, 3), (5, 4), (5, 5), (5, 6)] A41 A53 → va_P (dC, dI) vwCl (WK cB cI cJ cZ cQ q A53) H → va_S AS s.heap H locs → lv_has ls 5 [(3, .int (iI z40)), (2, .int (iI z2)), (0, .ref (q 3)), (1, .ref (q ta))] → W p l e (headSpec ws_kc_X5_readFact (rqm 5 b)).room s m [.ref (q 3), .ref (q ta)].toArray below meth c H locs 0 0 Q (F0 m 122 ls [.int (iI z51)]) := by
              intro z51 A53 H locs ls f54 f55 hI hj52 hP hS hl
              clear hw42
              refine lv_istore (lv' := [(4, .int (iI z51)), (3, .int (iI z40)), (2, .int (iI z2)), (0, .ref (q 3)), (1, .ref (q ta))]) hx hb dX5_readFact_122 hl (by decide) rfl (fun ls hl => ?_)
              refine lv_iload hx hb dX5_readFact_124 (lv_at hl 0 rfl) ?_
              refine lv_iconst (v := iI (-1)) hx hb dX5_readFact_126 (by decide +kernel) ?_
              have J152_58 : ∀ (z73 : Int) (A75 : St) (H : Heap) (locs : List Loc) (ls : Array Slot), (0 ≤ z73 ∧ z73 ≤ 1) → (z73 = 1 → A75 3 4 = A 3 4) → IK A75 → fk [71, 102] [(3, 2), (3, 3), (3, 4), (5, 1), (5, 2), (5, 3), (5, 4), (5, 5), (5, 6), (70, 2), (101, 2)] A53 A75 → va_P (dC, dI) vwCl (WK cB cI cJ cZ cQ q A75) H → va_S AS s.heap H locs → lv_has ls 5 [(4, .int (iI z51)), (3, .int (iI z40)), (2, .int (iI z2)), (0, .ref (q 3)), (1, .ref (q ta))] → W p l e (headSpec ws_kc_X5_readFact (rqm 5 b)).room s m [.ref (q 3), .ref (q ta)].toArray below meth c H locs 0 0 Q (F0 m 152 ls [.int (iI z73)]) := by
                intro z73 A75 H locs ls f76 f77 hI hj74 hP hS hl
                refine lv_istore_n (lv' := [(3, .int (iI z73)), (4, .int (iI z51)), (2, .int (iI z2)), (0, .ref (q 3)), (1, .ref (q ta))]) hx hb dX5_readFact_152 rfl hl (by decide) rfl (fun ls hl => ?_)
                have r142 : (0 : Int) ≤ (A75 3 4) ∧ (A75 3 4) ≤ 8 := irRD_4 hI
                exact J153_29 z73 _ _ _ _ (by omega) (by omega) hI (fk.trans (fk.trans (fk.trans (fk.trans (fk.rf) hf33 rfl rfl) hf43 rfl rfl) hj52 rfl rfl) hj74 rfl rfl) hP hS (lv_sub hl [0, 2, 3, 4] rfl)
              have J151_57 : ∀ (A72 : St) (H : Heap) (locs : List Loc) (ls : Array Slot), IK A72 → fk [71, 102] [(3, 2), (3, 3), (3, 4), (5, 1), (5, 2), (5, 3), (5, 4), (5, 5), (5, 6), (70, 2), (101, 2)] A53 A72 → va_P (dC, dI) vwCl (WK cB cI cJ cZ cQ q A72) H → va_S AS s.heap H locs → lv_has ls 5 [(4, .int (iI z51)), (3, .int (iI z40)), (2, .int (iI z2)), (0, .ref (q 3)), (1, .ref (q ta))] → W p l e (headSpec ws_kc_X5_readFact (rqm 5 b)).room s m [.ref (q 3), .ref (q ta)].toArray below meth c H locs 0 0 Q (F0 m 151 ls []) := by
                intro A72 H locs ls hI hj71 hP hS hl
                refine lv_iconst (v := iI 0) hx hb dX5_readFact_151 (by decide +kernel) ?_
                have r79 : (0 : Int) ≤ (A72 3 4) ∧ (A72 3 4) ≤ 8 := irRD_4 hI
                exact J152_58 0 _ _ _ _ (by omega) (by omega) hI (fk.trans (fk.rf) hj71 rfl rfl) hP hS (lv_sub hl [0, 1, 2, 3, 4] rfl)
              refine lv_icmp_eq (tgt := 151) hx hb dX5_readFact_127 (by decide) (fun c56 => ?_) (fun c56 => ?_)
              · have c56 : z51 = (-1) := (i_eq f54 ⟨by decide, by decide⟩).mp c56
                exact J151_57 _ _ _ _ hI (fk.rf) hP hS (lv_sub hl [0, 1, 2, 3, 4] rfl)
              · have c56 : ¬ z51 = (-1) := mt (i_eq f54 ⟨by decide, by decide⟩).mpr c56
                refine lv_aload_n hx hb dX5_readFact_130 rfl (lv_at hl 3 rfl) ?_
                refine lv_aload_n hx hb dX5_readFact_131 rfl (lv_at hl 4 rfl) ?_
                have e59 : A53 3 4 = (A41 3 4) := (hj52 3 4 rfl rfl)
                refine k_calli (As := [.ref (q ta)]) (rest := []) ⟨hx, hb, hml, hown, hts⟩ hE (kq_sum l dC dI cB cI cJ cZ cQ aL aS q ta hta _ b rfl (by omega) _ hI (by omega)) (cwV 1 hts (goodVk (wk_in_8 _ (List.mem_of_getElem? (i := 1) rfl)) (wk_in_8 _ (List.mem_of_getElem? (i := 2) rfl)) (wk_in_8 _ (List.mem_of_getElem? (i := 3) rfl)) (wk_in_5 _ (List.mem_of_getElem? (i := 28) rfl)) (wk_in_8 _ (List.mem_of_getElem? (i := 4) rfl))) rfl rfl rfl (by decide +kernel) ⟨by show (10 * (9 - b) + 9) + 1 ≤ 10 * (9 - b) + 10; omega, by show 8 + (4 + 11) + (400 * (9 - b) + 160) ≤ 400 * (9 - b) + 200; omega⟩) hK hDD hA0 hP hS 3 5 (wkRD) rfl rfl hl.1 (Nat.le_of_ble_eq_true rfl) dX5_readFact_132 (fun z60 A61 H locs hw62 hP hS => ?_)
                obtain ⟨hI, hf63, hw62⟩ := hw62
                have r64 : (0 : Int) ≤ (A61 3 4) ∧ (A61 3 4) ≤ 8 := irRD_4 hI
                have rz60 : 0 ≤ z60 ∧ z60 ≤ 1 := hw62.1
                have hw62 := hw62.2
                refine lv_if_eq (tgt := 151) hx hb dX5_readFact_135 (by decide) (fun c65 => ?_) (fun c65 => ?_)
                · have c65 : z60 = 0 := (i_eq0 (rb rz60 (by decide) (by decide))).mp c65
                  clear hw62
                  exact J151_57 _ _ _ _ hI (fk.trans (fk.rf) hf63 rfl rfl) hP hS (lv_sub hl [0, 1, 2, 3, 4] rfl)
                · have c65 : ¬ z60 = 0 := mt (i_eq0 (rb rz60 (by decide) (by decide))).mpr c65
                  have hw62b := hw62 (by omega)
                  clear hw62
                  refine lv_aload_n hx hb dX5_readFact_138 rfl (lv_at hl 4 rfl) ?_
                  refine lv_iload hx hb dX5_readFact_139 (lv_at hl 0 rfl) ?_
                  refine k_calli (As := [.int (iI z51)]) (rest := []) ⟨hx, hb, hml, hown, hts⟩ hE (kc_X8_add l dC dI cB cI cJ cZ cQ aL aS q _ ta z51 hI hta f54) (cwV 1 hts (goodVk (wk_in_7 _ (List.mem_of_getElem? (i := 33) rfl)) (wk_in_7 _ (List.mem_of_getElem? (i := 34) rfl)) (wk_in_7 _ (List.mem_of_getElem? (i := 35) rfl)) (wk_in_1 _ (List.mem_of_getElem? (i := 35) rfl)) (wk_in_7 _ (List.mem_of_getElem? (i := 36) rfl))) rfl rfl rfl (by decide +kernel) ⟨by show (0) + 1 ≤ 10 * (9 - b) + 10; omega, by show 8 + (2 + 11) + (0) ≤ 400 * (9 - b) + 200; omega⟩) hK hDD hA0 hP hS ta 8 (wkE hta) rfl rfl hl.1 (Nat.le_of_ble_eq_true rfl) dX5_readFact_141 (fun z66 A67 H locs hw68 hP hS => ?_)
                  obtain ⟨hI, hf69, hw68⟩ := hw68
                  refine lv_if_eq (tgt := 151) hx hb dX5_readFact_144 (by decide) (fun c70 => ?_) (fun c70 => ?_)
                  · have c70 : z66 = 0 := (i_eq0 (rb hw68 (by decide) (by decide))).mp c70
                    exact J151_57 _ _ _ _ hI (fk.trans (fk.trans (fk.rf) hf63 rfl rfl) hf69 rfl rfl) hP hS (lv_sub hl [0, 1, 2, 3, 4] rfl)
                  · have c70 : ¬ z66 = 0 := mt (i_eq0 (rb hw68 (by decide) (by decide))).mpr c70
                    refine lv_iconst (v := iI 1) hx hb dX5_readFact_147 (by decide +kernel) ?_
                    refine lv_goto (tgt := 152) hx hb dX5_readFact_148 (by decide) ?_
                    have e78 : A67 3 4 = (A61 3 4) := (hf69 3 4 rfl rfl)
                    exact J152_58 1 _ _ _ _ (by omega) (by omega) hI (fk.trans (fk.trans (fk.rf) hf63 rfl rfl) hf69 rfl rfl) hP hS (lv_sub hl [0, 1, 2, 3, 4] rfl)
            refine lv_if_eq (tgt := 121) hx hb dX5_readFact_111 (by decide) (fun c45 => ?_) (fun c45 => ?_)
            · have c45 : z40 = 0 := (i_eq0 (rb rz40 (by decide) (by decide))).mp c45
              clear hw42
              refine lv_iconst (v := iI (-1)) hx hb dX5_readFact_121 (by decide +kernel) ?_
              exact J122_46 (-1) _ _ _ _ (by omega) (by omega) hI (fk.rf) hP hS (lv_sub hl [0, 1, 2, 3] rfl)
            · have c45 : ¬ z40 = 0 := mt (i_eq0 (rb rz40 (by decide) (by decide))).mpr c45
              have hw42b := hw42 (by omega)
              clear hw42
              refine lv_aload_n hx hb dX5_readFact_114 rfl (lv_at hl 2 rfl) ?_
              refine k_calli (As := []) (rest := []) ⟨hx, hb, hml, hown, hts⟩ hE (kc_X5_comparisonSign l dC dI cB cI cJ cZ cQ aL aS q _ hI) (cwV 0 hts (goodVk (wk_in_8 _ (List.mem_of_getElem? (i := 17) rfl)) (wk_in_8 _ (List.mem_of_getElem? (i := 18) rfl)) (wk_in_8 _ (List.mem_of_getElem? (i := 19) rfl)) (wk_in_5 _ (List.mem_of_getElem? (i := 28) rfl)) (wk_in_8 _ (List.mem_of_getElem? (i := 20) rfl))) rfl rfl rfl (by decide +kernel) ⟨by show (2) + 1 ≤ 10 * (9 - b) + 10; omega, by show 8 + (2 + 11) + (45) ≤ 400 * (9 - b) + 200; omega⟩) hK hDD hA0 hP hS 3 5 (wkRD) rfl rfl hl.1 (Nat.le_of_ble_eq_true rfl) dX5_readFact_115 (fun z47 A48 H locs hw49 hP hS => ?_)
              obtain ⟨hI, hf50, hw49⟩ := hw49
              refine lv_goto (tgt := 122) hx hb dX5_readFact_118 (by decide) ?_
              have e80 : A48 3 4 = (A41 3 4) := (hf50 3 4 rfl rfl)
              exact J122_46 z47 _ _ _ _ (by omega) (by omega) hI (fk.trans (fk.rf) hf50 rfl rfl) hP hS (lv_sub hl [0, 1, 2, 3] rfl)
          · have c34 : ¬ z30 = 0 := mt (i_eq0 (rb hw32 (by decide) (by decide))).mpr c34
            refine lv_aload_n hx hb dX5_readFact_64 rfl (lv_at hl 2 rfl) ?_
            have e84 : A4 3 4 = (A 3 4) := (hj3 3 4 rfl rfl)
            have e83 : A23 3 4 = (A 3 4) := (hj22 3 4 rfl rfl).trans e84
            have e82 : A25 3 4 = (A 3 4) := (hf27 3 4 rfl rfl).trans e83
            have e81 : A31 3 4 = (A 3 4) := (hf33 3 4 rfl rfl).trans e82
            have r85 : (0 : Int) ≤ (A 3 4) ∧ (A 3 4) ≤ 8 := by rw [← e81]; exact irRD_4 hI
            refine k_calli (As := []) (rest := []) ⟨hx, hb, hml, hown, hts⟩ hE (kc_X5_enter l dC dI cB cI cJ cZ cQ aL aS q _ hI) (cwV 0 hts (goodVk (wk_in_7 _ (List.mem_of_getElem? (i := 49) rfl)) (wk_in_7 _ (List.mem_of_getElem? (i := 50) rfl)) (wk_in_7 _ (List.mem_of_getElem? (i := 51) rfl)) (wk_in_5 _ (List.mem_of_getElem? (i := 28) rfl)) (wk_in_7 _ (List.mem_of_getElem? (i := 52) rfl))) rfl rfl rfl (by decide +kernel) ⟨by show (1) + 1 ≤ 10 * (9 - b) + 10; omega, by show 8 + (1 + 11) + (21) ≤ 400 * (9 - b) + 200; omega⟩) hK hDD hA0 hP hS 3 5 (wkRD) rfl rfl hl.1 (Nat.le_of_ble_eq_true rfl) dX5_readFact_65 (fun z86 A87 H locs hw88 hP hS => ?_)
            obtain ⟨hI, hf89, hw88⟩ := hw88
            have r90 : (0 : Int) ≤ (A87 3 4) ∧ (A87 3 4) ≤ 8 := irRD_4 hI
            have rz86 : 0 ≤ z86 ∧ z86 ≤ 1 := hw88.1
            have hw88 := hw88.2
            have J100_93 : ∀ (z114 : Int) (A116 : St) (H : Heap) (locs : List Loc) (ls : Array Slot), (0 ≤ z114 ∧ z114 ≤ 1) → (z114 = 1 → A116 3 4 = A 3 4) → IK A116 → fk [71, 102] [(3, 2), (3, 3), (3, 4), (5, 1), (5, 2), (5, 3), (5, 4), (5, 5), (5, 6), (70, 2), (101, 2)] A87 A116 → va_P (dC, dI) vwCl (WK cB cI cJ cZ cQ q A116) H → va_S AS s.heap H locs → lv_has ls 5 [(3, .int (iI z1)), (2, .int (iI z2)), (0, .ref (q 3)), (1, .ref (q ta))] → W p l e (headSpec ws_kc_X5_readFact (rqm 5 b)).room s m [.ref (q 3), .ref (q ta)].toArray below meth c H locs 0 0 Q (F0 m 100 ls [.int (iI z114)]) := by
              intro z114 A116 H locs ls f117 f118 hI hj115 hP hS hl
              clear hw88
              refine lv_istore_n (lv' := [(3, .int (iI z114)), (2, .int (iI z2)), (0, .ref (q 3)), (1, .ref (q ta))]) hx hb dX5_readFact_100 rfl hl (by decide) rfl (fun ls hl => ?_)
              refine lv_goto (tgt := 153) hx hb dX5_readFact_101 (by decide) ?_
              have r143 : (0 : Int) ≤ (A116 3 4) ∧ (A116 3 4) ≤ 8 := irRD_4 hI
              exact J153_29 z114 _ _ _ _ (by omega) (by omega) hI (fk.trans (fk.trans (fk.trans (fk.rf) hf33 rfl rfl) hf89 rfl rfl) hj115 rfl rfl) hP hS (lv_sub hl [0, 1, 2, 3] rfl)
            have J99_92 : ∀ (A113 : St) (H : Heap) (locs : List Loc) (ls : Array Slot), IK A113 → fk [71, 102] [(3, 2), (3, 3), (3, 4), (5, 1), (5, 2), (5, 3), (5, 4), (5, 5), (5, 6), (70, 2), (101, 2)] A87 A113 → va_P (dC, dI) vwCl (WK cB cI cJ cZ cQ q A113) H → va_S AS s.heap H locs → lv_has ls 5 [(3, .int (iI z1)), (2, .int (iI z2)), (0, .ref (q 3)), (1, .ref (q ta))] → W p l e (headSpec ws_kc_X5_readFact (rqm 5 b)).room s m [.ref (q 3), .ref (q ta)].toArray below meth c H locs 0 0 Q (F0 m 99 ls []) := by
              intro A113 H locs ls hI hj112 hP hS hl
              clear hw88
              refine lv_iconst (v := iI 0) hx hb dX5_readFact_99 (by decide +kernel) ?_
              have r119 : (0 : Int) ≤ (A113 3 4) ∧ (A113 3 4) ≤ 8 := irRD_4 hI
              exact J100_93 0 _ _ _ _ (by omega) (by omega) hI (fk.trans (fk.rf) hj112 rfl rfl) hP hS (lv_sub hl [0, 1, 2, 3] rfl)
            refine lv_if_eq (tgt := 99) hx hb dX5_readFact_68 (by decide) (fun c91 => ?_) (fun c91 => ?_)
            · have c91 : z86 = 0 := (i_eq0 (rb rz86 (by decide) (by decide))).mp c91
              clear hw88
              exact J99_92 _ _ _ _ hI (fk.rf) hP hS (lv_sub hl [0, 1, 2, 3] rfl)
            · have c91 : ¬ z86 = 0 := mt (i_eq0 (rb rz86 (by decide) (by decide))).mpr c91
              have hw88b := hw88 (by omega)
              clear hw88
              refine lv_aload_n hx hb dX5_readFact_71 rfl (lv_at hl 2 rfl) ?_
              refine lv_aload_n hx hb dX5_readFact_72 rfl (lv_at hl 3 rfl) ?_
              refine k_calli (As := [.ref (q ta)]) (rest := []) ⟨hx, hb, hml, hown, hts⟩ hE (IHt _ hI (by omega) (by omega)) (cwV 1 hts (goodVk (wk_in_7 _ (List.mem_of_getElem? (i := 26) rfl)) (wk_in_7 _ (List.mem_of_getElem? (i := 27) rfl)) (wk_in_7 _ (List.mem_of_getElem? (i := 28) rfl)) (wk_in_5 _ (List.mem_of_getElem? (i := 28) rfl)) (wk_in_7 _ (List.mem_of_getElem? (i := 29) rfl))) rfl rfl rfl (by decide +kernel) ⟨by show (10 * (9 - (b + 1)) + 12) + 1 ≤ 10 * (9 - b) + 10; omega, by show 8 + (3 + 11) + (400 * (9 - (b + 1)) + 280) ≤ 400 * (9 - b) + 200; omega⟩) hK hDD hA0 hP hS 3 5 (wkRD) rfl rfl hl.1 (Nat.le_of_ble_eq_true rfl) dX5_readFact_73 (fun z94 A95 H locs hw96 hP hS => ?_)
              obtain ⟨hI, hf97, hw96⟩ := hw96
              have r98 : (0 : Int) ≤ (A95 3 4) ∧ (A95 3 4) ≤ 8 := irRD_4 hI
              have rz94 : 0 ≤ z94 ∧ z94 ≤ 1 := hw96.1
              have hw96 := hw96.2
              refine lv_if_eq (tgt := 99) hx hb dX5_readFact_76 (by decide) (fun c99 => ?_) (fun c99 => ?_)
              · have c99 : z94 = 0 := (i_eq0 (rb rz94 (by decide) (by decide))).mp c99
                clear hw96
                exact J99_92 _ _ _ _ hI (fk.trans (fk.rf) hf97 rfl rfl) hP hS (lv_sub hl [0, 1, 2, 3] rfl)
              · have c99 : ¬ z94 = 0 := mt (i_eq0 (rb rz94 (by decide) (by decide))).mpr c99
                have hw96b := hw96 (by omega)
                clear hw96
                refine lv_aload_n hx hb dX5_readFact_79 rfl (lv_at hl 2 rfl) ?_
                refine lv_bipush (v := iI 93) hx hb dX5_readFact_80 (by decide +kernel) ?_
                refine k_calli (As := [.int (iI 93)]) (rest := []) ⟨hx, hb, hml, hown, hts⟩ hE (kc_X5_sign l dC dI cB cI cJ cZ cQ aL aS q _ 93 hI ⟨by decide, by decide⟩) (cwV 1 hts (goodVk (wk_in_7 _ (List.mem_of_getElem? (i := 53) rfl)) (wk_in_7 _ (List.mem_of_getElem? (i := 54) rfl)) (wk_in_7 _ (List.mem_of_getElem? (i := 55) rfl)) (wk_in_5 _ (List.mem_of_getElem? (i := 28) rfl)) (wk_in_7 _ (List.mem_of_getElem? (i := 56) rfl))) rfl rfl rfl (by decide +kernel) ⟨by show (2) + 1 ≤ 10 * (9 - b) + 10; omega, by show 8 + (2 + 11) + (45) ≤ 400 * (9 - b) + 200; omega⟩) hK hDD hA0 hP hS 3 5 (wkRD) rfl rfl hl.1 (Nat.le_of_ble_eq_true rfl) dX5_readFact_82 (fun z100 A101 H locs hw102 hP hS => ?_)
                obtain ⟨hI, hf103, hw102⟩ := hw102
                refine lv_if_eq (tgt := 99) hx hb dX5_readFact_85 (by decide) (fun c104 => ?_) (fun c104 => ?_)
                · have c104 : z100 = 0 := (i_eq0 (rb hw102 (by decide) (by decide))).mp c104
                  exact J99_92 _ _ _ _ hI (fk.trans (fk.trans (fk.rf) hf97 rfl rfl) hf103 rfl rfl) hP hS (lv_sub hl [0, 1, 2, 3] rfl)
                · have c104 : ¬ z100 = 0 := mt (i_eq0 (rb hw102 (by decide) (by decide))).mpr c104
                  refine lv_aload_n hx hb dX5_readFact_88 rfl (lv_at hl 2 rfl) ?_
                  have e105 : A101 3 4 = (A95 3 4) := (hf103 3 4 rfl rfl)
                  refine k_calli (As := []) (rest := []) ⟨hx, hb, hml, hown, hts⟩ hE (kc_X5_leave l dC dI cB cI cJ cZ cQ aL aS q _ hI (by omega)) (cwV 0 hts (goodVk (wk_in_7 _ (List.mem_of_getElem? (i := 57) rfl)) (wk_in_7 _ (List.mem_of_getElem? (i := 58) rfl)) (wk_in_7 _ (List.mem_of_getElem? (i := 59) rfl)) (wk_in_5 _ (List.mem_of_getElem? (i := 28) rfl)) (wk_in_8 _ (List.mem_of_getElem? (i := 0) rfl))) rfl rfl rfl (by decide +kernel) ⟨by show (0) + 1 ≤ 10 * (9 - b) + 10; omega, by show 8 + (1 + 11) + (0) ≤ 400 * (9 - b) + 200; omega⟩) hK hDD hA0 hP hS 3 5 (wkRD) rfl rfl hl.1 (Nat.le_of_ble_eq_true rfl) dX5_readFact_89 (fun z106 A107 H locs hw108 hP hS => ?_)
                  obtain ⟨hI, hf109, hw108⟩ := hw108
                  have r110 : (0 : Int) ≤ (A107 3 4) ∧ (A107 3 4) ≤ 8 := irRD_4 hI
                  have rz106 : 0 ≤ z106 ∧ z106 ≤ 1 := hw108.1
                  have hw108 := hw108.2
                  refine lv_if_eq (tgt := 99) hx hb dX5_readFact_92 (by decide) (fun c111 => False.elim (by have c111 : z106 = 0 := (i_eq0 (rb rz106 (by decide) (by decide))).mp c111; omega)) (fun _ => ?_)
                  refine lv_iconst (v := iI 1) hx hb dX5_readFact_95 (by decide +kernel) ?_
                  refine lv_goto (tgt := 100) hx hb dX5_readFact_96 (by decide) ?_
                  exact J100_93 1 _ _ _ _ (by omega) (by omega) hI (fk.trans (fk.trans (fk.trans (fk.rf) hf97 rfl rfl) hf103 rfl rfl) hf109 rfl rfl) hP hS (lv_sub hl [0, 1, 2, 3] rfl)
        · have c28 : ¬ z24 = 0 := mt (i_eq0 (rb hw26 (by decide) (by decide))).mpr c28
          refine lv_aload_n hx hb dX5_readFact_45 rfl (lv_at hl 3 rfl) ?_
          refine lv_bipush (v := iI (-5)) hx hb dX5_readFact_46 (by decide +kernel) ?_
          refine k_calli (As := [.int (iI (-5))]) (rest := []) ⟨hx, hb, hml, hown, hts⟩ hE (kc_X8_add l dC dI cB cI cJ cZ cQ aL aS q _ ta (-5) hI hta ⟨by decide, by decide⟩) (cwV 1 hts (goodVk (wk_in_7 _ (List.mem_of_getElem? (i := 33) rfl)) (wk_in_7 _ (List.mem_of_getElem? (i := 34) rfl)) (wk_in_7 _ (List.mem_of_getElem? (i := 35) rfl)) (wk_in_1 _ (List.mem_of_getElem? (i := 35) rfl)) (wk_in_7 _ (List.mem_of_getElem? (i := 36) rfl))) rfl rfl rfl (by decide +kernel) ⟨by show (0) + 1 ≤ 10 * (9 - b) + 10; omega, by show 8 + (2 + 11) + (0) ≤ 400 * (9 - b) + 200; omega⟩) hK hDD hA0 hP hS ta 8 (wkE hta) rfl rfl hl.1 (Nat.le_of_ble_eq_true rfl) dX5_readFact_48 (fun z120 A121 H locs hw122 hP hS => ?_)
          obtain ⟨hI, hf123, hw122⟩ := hw122
          refine lv_istore_n (lv' := [(3, .int (iI z120)), (2, .int (iI z2)), (0, .ref (q 3)), (1, .ref (q ta))]) hx hb dX5_readFact_51 rfl hl (by decide) rfl (fun ls hl => ?_)
          refine lv_goto (tgt := 153) hx hb dX5_readFact_52 (by decide) ?_
          have e147 : A4 3 4 = (A 3 4) := (hj3 3 4 rfl rfl)
          have e146 : A23 3 4 = (A 3 4) := (hj22 3 4 rfl rfl).trans e147
          have e145 : A25 3 4 = (A 3 4) := (hf27 3 4 rfl rfl).trans e146
          have e144 : A121 3 4 = (A 3 4) := (hf123 3 4 rfl rfl).trans e145
          have r148 : (0 : Int) ≤ (A 3 4) ∧ (A 3 4) ≤ 8 := by rw [← e144]; exact irRD_4 hI
          exact J153_29 z120 _ _ _ _ (by omega) (by omega) hI (fk.trans (fk.rf) hf123 rfl rfl) hP hS (lv_sub hl [0, 1, 2, 3] rfl)
      refine lv_icmp_ge (tgt := 36) hx hb dX5_readFact_8 (by decide) (fun c10 => ?_) (fun c10 => ?_)
      · have c10 : 1600 ≤ z1 := (i_le ⟨by decide, by decide⟩ (rb f7 (by decide) (by decide))).mp c10
        exact J36_11 _ _ _ _ hI (fk.rf) hP hS (lv_sub hl [0, 1, 2, 3] rfl)
      · have c10 : ¬ 1600 ≤ z1 := mt (i_le ⟨by decide, by decide⟩ (rb f7 (by decide) (by decide))).mpr c10
        refine lv_aload_n hx hb dX5_readFact_11 rfl (lv_at hl 2 rfl) ?_
        refine lv_bipush (v := iI 18) hx hb dX5_readFact_12 (by decide +kernel) ?_
        refine k_calli (As := [.int (iI 18)]) (rest := []) ⟨hx, hb, hml, hown, hts⟩ hE (kc_X5_passesWord l dC dI cB cI cJ cZ cQ aL aS q _ 18 hI ⟨by decide, by decide⟩) (cwV 1 hts (goodVk (wk_in_6 _ (List.mem_of_getElem? (i := 27) rfl)) (wk_in_6 _ (List.mem_of_getElem? (i := 28) rfl)) (wk_in_6 _ (List.mem_of_getElem? (i := 29) rfl)) (wk_in_5 _ (List.mem_of_getElem? (i := 28) rfl)) (wk_in_6 _ (List.mem_of_getElem? (i := 30) rfl))) rfl rfl rfl (by decide +kernel) ⟨by show (2) + 1 ≤ 10 * (9 - b) + 10; omega, by show 8 + (2 + 11) + (45) ≤ 400 * (9 - b) + 200; omega⟩) hK hDD hA0 hP hS 3 5 (wkRD) rfl rfl hl.1 (Nat.le_of_ble_eq_true rfl) dX5_readFact_14 (fun z12 A13 H locs hw14 hP hS => ?_)
        obtain ⟨hI, hf15, hw14⟩ := hw14
        refine lv_if_eq (tgt := 36) hx hb dX5_readFact_17 (by decide) (fun c16 => ?_) (fun c16 => ?_)
        · have c16 : z12 = 0 := (i_eq0 (rb hw14 (by decide) (by decide))).mp c16
          exact J36_11 _ _ _ _ hI (fk.trans (fk.rf) hf15 rfl rfl) hP hS (lv_sub hl [0, 1, 2, 3] rfl)
        · have c16 : ¬ z12 = 0 := mt (i_eq0 (rb hw14 (by decide) (by decide))).mpr c16
          refine lv_iload_n hx hb dX5_readFact_20 rfl (lv_at hl 1 rfl) ?_
          have J29_18 : ∀ (z19 : Int) (H : Heap) (locs : List Loc) (ls : Array Slot), (0 ≤ z19 ∧ z19 ≤ 1) → va_P (dC, dI) vwCl (WK cB cI cJ cZ cQ q A13) H → va_S AS s.heap H locs → lv_has ls 5 [(3, .int (iI z1)), (2, .int (iI z2)), (0, .ref (q 3)), (1, .ref (q ta))] → W p l e (headSpec ws_kc_X5_readFact (rqm 5 b)).room s m [.ref (q 3), .ref (q ta)].toArray below meth c H locs 0 0 Q (F0 m 29 ls [.int (iI z19)]) := by
            intro z19 H locs ls f21 hP hS hl
            refine lv_istore_n (lv' := [(2, .int (iI z19)), (3, .int (iI z1)), (0, .ref (q 3)), (1, .ref (q ta))]) hx hb dX5_readFact_29 rfl hl (by decide) rfl (fun ls hl => ?_)
            refine lv_iinc (v := iI (z1 + 1)) (lv' := [(3, .int (iI (z1 + 1))), (2, .int (iI z19)), (0, .ref (q 3)), (1, .ref (q ta))]) hx hb dX5_readFact_30 hl (k := 1) rfl (i_inc (by omega)) (by decide) rfl (fun ls hl => ?_)
            refine lv_goto (tgt := 4) hx hb dX5_readFact_33 (by decide) ?_
            exact ih6 _ (by omega) (z1 + 1) z19 _ _ _ _ (by omega) (by omega) rfl hI (fk.trans (fk.trans (fk.rf) hj3 rfl rfl) hf15 rfl rfl) hP hS (lv_sub hl [0, 1, 2, 3] rfl)
          refine lv_if_ne (tgt := 28) hx hb dX5_readFact_21 (by decide) (fun c17 => ?_) (fun c17 => ?_)
          · have c17 : ¬ z2 = 0 := mt (i_eq0 (rb f8 (by decide) (by decide))).mpr c17
            refine lv_iconst (v := iI 0) hx hb dX5_readFact_28 (by decide +kernel) ?_
            exact J29_18 0 _ _ _ (by omega) hP hS (lv_sub hl [0, 1, 2, 3] rfl)
          · have c17 : z2 = 0 := (i_eq0 (rb f8 (by decide) (by decide))).mp c17
            refine lv_iconst (v := iI 1) hx hb dX5_readFact_24 (by decide +kernel) ?_
            refine lv_goto (tgt := 29) hx hb dX5_readFact_25 (by decide) ?_
            exact J29_18 1 _ _ _ (by omega) hP hS (lv_sub hl [0, 1, 2, 3] rfl)
  exact L4_5 _ 0 0 _ _ _ _ (by omega) (by omega) rfl hI (fk.rf) hP hS (lv_sub hl [0, 1, 2, 3] rfl)

set_option maxHeartbeats 4000000 in
set_option maxRecDepth 100000 in
theorem kc_X5_readBoth (l : Launch) (dC : Nat → ClassId) (dI : Nat → Nat → Nat) (cB cI cJ cZ cQ : ClassId) (aL aS : Nat) (q : Nat → Nat) (b : Nat) (A : St) (ta : Nat) (hI : IK A) (hta : isE ta) (hp0 : A 3 4 = (b : Int)) (hp1 : b ≤ 8) (IHt : ∀ A : St, IK A → A 3 4 = (b : Int) + 1 → b + 1 ≤ 8 → KMi l yX5_readTest ws_kc_X5_readTest (rqm 7 (b + 1)) aL aS (dC, dI) (tyA cB cI cJ cZ cQ) (WK cB cI cJ cZ cQ q) A [.ref (q 3), .ref (q ta)] (fun z u => IK u ∧ fk [71, 102] [(3, 2), (3, 3), (3, 4), (5, 1), (5, 2), (5, 3), (5, 4), (5, 5), (5, 6), (70, 2), (101, 2)] A u ∧ ((0 ≤ z ∧ z ≤ 1) ∧ (z = 1 → u 3 4 = A 3 4)))) : KMi l yX5_readBoth ws_kc_X5_readBoth (rqm 6 b) aL aS (dC, dI) (tyA cB cI cJ cZ cQ) (WK cB cI cJ cZ cQ q) A [.ref (q 3), .ref (q ta)] (fun z u => IK u ∧ fk [71, 102] [(3, 2), (3, 3), (3, 4), (5, 1), (5, 2), (5, 3), (5, 4), (5, 5), (5, 6), (70, 2), (101, 2)] A u ∧ ((0 ≤ z ∧ z ≤ 1) ∧ (z = 1 → u 3 4 = A 3 4))) := by
  refine k_metz (cc := cX5_readBoth) (maxL := 3) WK_adr (plainFor_of_name (by decide +kernel)) rfl (Nat.le_of_ble_eq_true rfl) (fun z u h => h.2.2.1) (fun p e s m below meth c Q AS ls hx hb hml hown hts hK hDD hA0 hE RET H locs hP hS hl => ?_)
  have hown : s.vm.findClass RX5 = some m.cls := hown
  have hl : lv_has ls 3 [(0, .ref (q 3)), (1, .ref (q ta))] := hl
  refine lv_aload_n hx hb dX5_readBoth_0 rfl (lv_at hl 0 rfl) ?_
  refine lv_aload_n hx hb dX5_readBoth_1 rfl (lv_at hl 1 rfl) ?_
  have r1 : (0 : Int) ≤ (A 3 4) ∧ (A 3 4) ≤ 8 := irRD_4 hI
  refine k_calli (As := [.ref (q ta)]) (rest := []) ⟨hx, hb, hml, hown, hts⟩ hE (kc_X5_readFact l dC dI cB cI cJ cZ cQ aL aS q b _ ta hI hta (by omega) (by omega) IHt) (cwV 1 hts (goodVk (wk_in_7 _ (List.mem_of_getElem? (i := 38) rfl)) (wk_in_7 _ (List.mem_of_getElem? (i := 39) rfl)) (wk_in_7 _ (List.mem_of_getElem? (i := 40) rfl)) (wk_in_5 _ (List.mem_of_getElem? (i := 28) rfl)) (wk_in_7 _ (List.mem_of_getElem? (i := 41) rfl))) rfl rfl rfl (by decide +kernel) ⟨by show (10 * (9 - b) + 10) + 1 ≤ 10 * (9 - b) + 11; omega, by show 8 + (5 + 11) + (400 * (9 - b) + 200) ≤ 400 * (9 - b) + 240; omega⟩) hK hDD hA0 hP hS 3 5 (wkRD) rfl rfl hl.1 (Nat.le_of_ble_eq_true rfl) dX5_readBoth_2 (fun z2 A3 H locs hw4 hP hS => ?_)
  obtain ⟨hI, hf5, hw4⟩ := hw4
  have r6 : (0 : Int) ≤ (A3 3 4) ∧ (A3 3 4) ≤ 8 := irRD_4 hI
  have rz2 : 0 ≤ z2 ∧ z2 ≤ 1 := hw4.1
  have hw4 := hw4.2
  refine lv_if_ne (tgt := 10) hx hb dX5_readBoth_5 (by decide) (fun c7 => ?_) (fun c7 => ?_)
  · have c7 : ¬ z2 = 0 := mt (i_eq0 (rb rz2 (by decide) (by decide))).mpr c7
    have hw4b := hw4 (by omega)
    clear hw4
    refine lv_iconst (v := iI 0) hx hb dX5_readBoth_10 (by decide +kernel) ?_
    refine lv_istore_n (lv' := [(2, .int (iI 0)), (0, .ref (q 3)), (1, .ref (q ta))]) hx hb dX5_readBoth_11 rfl hl (by decide) rfl (fun ls hl => ?_)
    have L12_11 : ∀ (n15 : Nat) (z8 : Int) (A10 : St) (H : Heap) (locs : List Loc) (ls : Array Slot), (0 ≤ z8 ∧ z8 ≤ 2147483647) → (A10 3 4 = A 3 4) → ((1601 - z8).toNat = n15) → IK A10 → fk [71, 102] [(3, 2), (3, 3), (3, 4), (5, 1), (5, 2), (5, 3), (5, 4), (5, 5), (5, 6), (70, 2), (101, 2)] A3 A10 → va_P (dC, dI) vwCl (WK cB cI cJ cZ cQ q A10) H → va_S AS s.heap H locs → lv_has ls 3 [(2, .int (iI z8)), (0, .ref (q 3)), (1, .ref (q ta))] → W p l e (headSpec ws_kc_X5_readBoth (rqm 6 b)).room s m [.ref (q 3), .ref (q ta)].toArray below meth c H locs 0 0 Q (F0 m 12 ls []) := by
      intro n15
      induction n15 using Nat.strongRecOn with
      | ind n15 ih12 =>
        intro z8 A10 H locs ls f13 f14 hn15 hI hj9 hP hS hl
        have r16 : (0 : Int) ≤ (A10 3 4) ∧ (A10 3 4) ≤ 8 := irRD_4 hI
        refine lv_iload_n hx hb dX5_readBoth_12 rfl (lv_at hl 0 rfl) ?_
        refine lv_sipush (v := iI 1600) hx hb dX5_readBoth_13 (by decide +kernel) ?_
        refine lv_icmp_ge (tgt := 53) hx hb dX5_readBoth_16 (by decide) (fun c17 => ?_) (fun c17 => ?_)
        · have c17 : 1600 ≤ z8 := (i_le ⟨by decide, by decide⟩ (rb f13 (by decide) (by decide))).mp c17
          refine lv_iconst (v := iI 1) hx hb dX5_readBoth_53 (by decide +kernel) ?_
          exact RET 1 _ _ _ _ _ ⟨hI, fk.trans (fk.trans (fk.rf) hf5 rfl rfl) hj9 rfl rfl, by omega⟩ hP hS dX5_readBoth_54
        · have c17 : ¬ 1600 ≤ z8 := mt (i_le ⟨by decide, by decide⟩ (rb f13 (by decide) (by decide))).mpr c17
          refine lv_aload_n hx hb dX5_readBoth_19 rfl (lv_at hl 1 rfl) ?_
          refine lv_bipush (v := iI 17) hx hb dX5_readBoth_20 (by decide +kernel) ?_
          refine k_calli (As := [.int (iI 17)]) (rest := []) ⟨hx, hb, hml, hown, hts⟩ hE (kc_X5_passesWord l dC dI cB cI cJ cZ cQ aL aS q _ 17 hI ⟨by decide, by decide⟩) (cwV 1 hts (goodVk (wk_in_6 _ (List.mem_of_getElem? (i := 27) rfl)) (wk_in_6 _ (List.mem_of_getElem? (i := 28) rfl)) (wk_in_6 _ (List.mem_of_getElem? (i := 29) rfl)) (wk_in_5 _ (List.mem_of_getElem? (i := 28) rfl)) (wk_in_6 _ (List.mem_of_getElem? (i := 30) rfl))) rfl rfl rfl (by decide +kernel) ⟨by show (2) + 1 ≤ 10 * (9 - b) + 11; omega, by show 8 + (2 + 11) + (45) ≤ 400 * (9 - b) + 240; omega⟩) hK hDD hA0 hP hS 3 5 (wkRD) rfl rfl hl.1 (Nat.le_of_ble_eq_true rfl) dX5_readBoth_22 (fun z18 A19 H locs hw20 hP hS => ?_)
          obtain ⟨hI, hf21, hw20⟩ := hw20
          refine lv_if_eq (tgt := 53) hx hb dX5_readBoth_25 (by decide) (fun c22 => ?_) (fun c22 => ?_)
          · have c22 : z18 = 0 := (i_eq0 (rb hw20 (by decide) (by decide))).mp c22
            refine lv_iconst (v := iI 1) hx hb dX5_readBoth_53 (by decide +kernel) ?_
            have e23 : A19 3 4 = (A10 3 4) := (hf21 3 4 rfl rfl)
            exact RET 1 _ _ _ _ _ ⟨hI, fk.trans (fk.trans (fk.trans (fk.rf) hf5 rfl rfl) hj9 rfl rfl) hf21 rfl rfl, by omega⟩ hP hS dX5_readBoth_54
          · have c22 : ¬ z18 = 0 := mt (i_eq0 (rb hw20 (by decide) (by decide))).mpr c22
            refine lv_aload_n hx hb dX5_readBoth_28 rfl (lv_at hl 1 rfl) ?_
            refine lv_aload_n hx hb dX5_readBoth_29 rfl (lv_at hl 2 rfl) ?_
            have e24 : A19 3 4 = (A10 3 4) := (hf21 3 4 rfl rfl)
            refine k_calli (As := [.ref (q ta)]) (rest := []) ⟨hx, hb, hml, hown, hts⟩ hE (kc_X5_readFact l dC dI cB cI cJ cZ cQ aL aS q b _ ta hI hta (by omega) (by omega) IHt) (cwV 1 hts (goodVk (wk_in_7 _ (List.mem_of_getElem? (i := 38) rfl)) (wk_in_7 _ (List.mem_of_getElem? (i := 39) rfl)) (wk_in_7 _ (List.mem_of_getElem? (i := 40) rfl)) (wk_in_5 _ (List.mem_of_getElem? (i := 28) rfl)) (wk_in_7 _ (List.mem_of_getElem? (i := 41) rfl))) rfl rfl rfl (by decide +kernel) ⟨by show (10 * (9 - b) + 10) + 1 ≤ 10 * (9 - b) + 11; omega, by show 8 + (5 + 11) + (400 * (9 - b) + 200) ≤ 400 * (9 - b) + 240; omega⟩) hK hDD hA0 hP hS 3 5 (wkRD) rfl rfl hl.1 (Nat.le_of_ble_eq_true rfl) dX5_readBoth_30 (fun z25 A26 H locs hw27 hP hS => ?_)
            obtain ⟨hI, hf28, hw27⟩ := hw27
            have r29 : (0 : Int) ≤ (A26 3 4) ∧ (A26 3 4) ≤ 8 := irRD_4 hI
            have rz25 : 0 ≤ z25 ∧ z25 ≤ 1 := hw27.1
            have hw27 := hw27.2
            refine lv_if_eq (tgt := 45) hx hb dX5_readBoth_33 (by decide) (fun c30 => ?_) (fun c30 => ?_)
            · have c30 : z25 = 0 := (i_eq0 (rb rz25 (by decide) (by decide))).mp c30
              clear hw27
              refine lv_iconst (v := iI 0) hx hb dX5_readBoth_45 (by decide +kernel) ?_
              exact RET 0 _ _ _ _ _ ⟨hI, fk.trans (fk.trans (fk.trans (fk.trans (fk.rf) hf5 rfl rfl) hj9 rfl rfl) hf21 rfl rfl) hf28 rfl rfl, by omega⟩ hP hS dX5_readBoth_46
            · have c30 : ¬ z25 = 0 := mt (i_eq0 (rb rz25 (by decide) (by decide))).mpr c30
              have hw27b := hw27 (by omega)
              clear hw27
              refine lv_aload_n hx hb dX5_readBoth_36 rfl (lv_at hl 2 rfl) ?_
              refine lv_bipush (v := iI (-8)) hx hb dX5_readBoth_37 (by decide +kernel) ?_
              refine k_calli (As := [.int (iI (-8))]) (rest := []) ⟨hx, hb, hml, hown, hts⟩ hE (kc_X8_add l dC dI cB cI cJ cZ cQ aL aS q _ ta (-8) hI hta ⟨by decide, by decide⟩) (cwV 1 hts (goodVk (wk_in_7 _ (List.mem_of_getElem? (i := 33) rfl)) (wk_in_7 _ (List.mem_of_getElem? (i := 34) rfl)) (wk_in_7 _ (List.mem_of_getElem? (i := 35) rfl)) (wk_in_1 _ (List.mem_of_getElem? (i := 35) rfl)) (wk_in_7 _ (List.mem_of_getElem? (i := 36) rfl))) rfl rfl rfl (by decide +kernel) ⟨by show (0) + 1 ≤ 10 * (9 - b) + 11; omega, by show 8 + (2 + 11) + (0) ≤ 400 * (9 - b) + 240; omega⟩) hK hDD hA0 hP hS ta 8 (wkE hta) rfl rfl hl.1 (Nat.le_of_ble_eq_true rfl) dX5_readBoth_39 (fun z31 A32 H locs hw33 hP hS => ?_)
              obtain ⟨hI, hf34, hw33⟩ := hw33
              refine lv_if_ne (tgt := 47) hx hb dX5_readBoth_42 (by decide) (fun c35 => ?_) (fun c35 => ?_)
              · have c35 : ¬ z31 = 0 := mt (i_eq0 (rb hw33 (by decide) (by decide))).mpr c35
                refine lv_iinc (v := iI (z8 + 1)) (lv' := [(2, .int (iI (z8 + 1))), (0, .ref (q 3)), (1, .ref (q ta))]) hx hb dX5_readBoth_47 hl (k := 0) rfl (i_inc (by omega)) (by decide) rfl (fun ls hl => ?_)
                refine lv_goto (tgt := 12) hx hb dX5_readBoth_50 (by decide) ?_
                have e36 : A32 3 4 = (A26 3 4) := (hf34 3 4 rfl rfl)
                exact ih12 _ (by omega) (z8 + 1) _ _ _ _ (by omega) (by omega) rfl hI (fk.trans (fk.trans (fk.trans (fk.trans (fk.rf) hj9 rfl rfl) hf21 rfl rfl) hf28 rfl rfl) hf34 rfl rfl) hP hS (lv_sub hl [0, 1, 2] rfl)
              · have c35 : z31 = 0 := (i_eq0 (rb hw33 (by decide) (by decide))).mp c35
                refine lv_iconst (v := iI 0) hx hb dX5_readBoth_45 (by decide +kernel) ?_
                have e37 : A32 3 4 = (A26 3 4) := (hf34 3 4 rfl rfl)
                exact RET 0 _ _ _ _ _ ⟨hI, fk.trans (fk.trans (fk.trans (fk.trans (fk.trans (fk.rf) hf5 rfl rfl) hj9 rfl rfl) hf21 rfl rfl) hf28 rfl rfl) hf34 rfl rfl, by omega⟩ hP hS dX5_readBoth_46
    exact L12_11 _ 0 _ _ _ _ (by omega) (by omega) rfl hI (fk.rf) hP hS (lv_sub hl [0, 1, 2] rfl)
  · have c7 : z2 = 0 := (i_eq0 (rb rz2 (by decide) (by decide))).mp c7
    clear hw4
    refine lv_iconst (v := iI 0) hx hb dX5_readBoth_8 (by decide +kernel) ?_
    exact RET 0 _ _ _ _ _ ⟨hI, fk.trans (fk.rf) hf5 rfl rfl, by omega⟩ hP hS dX5_readBoth_9

set_option maxHeartbeats 4000000 in
set_option maxRecDepth 100000 in
theorem kc_X5_readTest (l : Launch) (dC : Nat → ClassId) (dI : Nat → Nat → Nat) (cB cI cJ cZ cQ : ClassId) (aL aS : Nat) (q : Nat → Nat) (b : Nat) (A : St) (ta : Nat) (hI : IK A) (hta : isE ta) (hp0 : A 3 4 = (b : Int)) (hp1 : b ≤ 8) (IHt : ∀ A : St, IK A → A 3 4 = (b : Int) + 1 → b + 1 ≤ 8 → KMi l yX5_readTest ws_kc_X5_readTest (rqm 7 (b + 1)) aL aS (dC, dI) (tyA cB cI cJ cZ cQ) (WK cB cI cJ cZ cQ q) A [.ref (q 3), .ref (q ta)] (fun z u => IK u ∧ fk [71, 102] [(3, 2), (3, 3), (3, 4), (5, 1), (5, 2), (5, 3), (5, 4), (5, 5), (5, 6), (70, 2), (101, 2)] A u ∧ ((0 ≤ z ∧ z ≤ 1) ∧ (z = 1 → u 3 4 = A 3 4)))) : KMi l yX5_readTest ws_kc_X5_readTest (rqm 7 b) aL aS (dC, dI) (tyA cB cI cJ cZ cQ) (WK cB cI cJ cZ cQ q) A [.ref (q 3), .ref (q ta)] (fun z u => IK u ∧ fk [71, 102] [(3, 2), (3, 3), (3, 4), (5, 1), (5, 2), (5, 3), (5, 4), (5, 5), (5, 6), (70, 2), (101, 2)] A u ∧ ((0 ≤ z ∧ z ≤ 1) ∧ (z = 1 → u 3 4 = A 3 4))) := by
  refine k_metz (cc := cX5_readTest) (maxL := 3) WK_adr (plainFor_of_name (by decide +kernel)) rfl (Nat.le_of_ble_eq_true rfl) (fun z u h => h.2.2.1) (fun p e s m below meth c Q AS ls hx hb hml hown hts hK hDD hA0 hE RET H locs hP hS hl => ?_)
  have hown : s.vm.findClass RX5 = some m.cls := hown
  have hl : lv_has ls 3 [(0, .ref (q 3)), (1, .ref (q ta))] := hl
  refine lv_aload_n hx hb dX5_readTest_0 rfl (lv_at hl 0 rfl) ?_
  refine lv_aload_n hx hb dX5_readTest_1 rfl (lv_at hl 1 rfl) ?_
  have r1 : (0 : Int) ≤ (A 3 4) ∧ (A 3 4) ≤ 8 := irRD_4 hI
  refine k_calli (As := [.ref (q ta)]) (rest := []) ⟨hx, hb, hml, hown, hts⟩ hE (kc_X5_readBoth l dC dI cB cI cJ cZ cQ aL aS q b _ ta hI hta (by omega) (by omega) IHt) (cwV 1 hts (goodVk (wk_in_7 _ (List.mem_of_getElem? (i := 30) rfl)) (wk_in_7 _ (List.mem_of_getElem? (i := 31) rfl)) (wk_in_7 _ (List.mem_of_getElem? (i := 32) rfl)) (wk_in_5 _ (List.mem_of_getElem? (i := 28) rfl)) (wk_in_7 _ (List.mem_of_getElem? (i := 37) rfl))) rfl rfl rfl (by decide +kernel) ⟨by show (10 * (9 - b) + 11) + 1 ≤ 10 * (9 - b) + 12; omega, by show 8 + (3 + 11) + (400 * (9 - b) + 240) ≤ 400 * (9 - b) + 280; omega⟩) hK hDD hA0 hP hS 3 5 (wkRD) rfl rfl hl.1 (Nat.le_of_ble_eq_true rfl) dX5_readTest_2 (fun z2 A3 H locs hw4 hP hS => ?_)
  obtain ⟨hI, hf5, hw4⟩ := hw4
  have r6 : (0 : Int) ≤ (A3 3 4) ∧ (A3 3 4) ≤ 8 := irRD_4 hI
  have rz2 : 0 ≤ z2 ∧ z2 ≤ 1 := hw4.1
  have hw4 := hw4.2
  refine lv_if_ne (tgt := 10) hx hb dX5_readTest_5 (by decide) (fun c7 => ?_) (fun c7 => ?_)
  · have c7 : ¬ z2 = 0 := mt (i_eq0 (rb rz2 (by decide) (by decide))).mpr c7
    have hw4b := hw4 (by omega)
    clear hw4
    refine lv_iconst (v := iI 0) hx hb dX5_readTest_10 (by decide +kernel) ?_
    refine lv_istore_n (lv' := [(2, .int (iI 0)), (0, .ref (q 3)), (1, .ref (q ta))]) hx hb dX5_readTest_11 rfl hl (by decide) rfl (fun ls hl => ?_)
    have L12_11 : ∀ (n15 : Nat) (z8 : Int) (A10 : St) (H : Heap) (locs : List Loc) (ls : Array Slot), (0 ≤ z8 ∧ z8 ≤ 2147483647) → (A10 3 4 = A 3 4) → ((1601 - z8).toNat = n15) → IK A10 → fk [71, 102] [(3, 2), (3, 3), (3, 4), (5, 1), (5, 2), (5, 3), (5, 4), (5, 5), (5, 6), (70, 2), (101, 2)] A3 A10 → va_P (dC, dI) vwCl (WK cB cI cJ cZ cQ q A10) H → va_S AS s.heap H locs → lv_has ls 3 [(2, .int (iI z8)), (0, .ref (q 3)), (1, .ref (q ta))] → W p l e (headSpec ws_kc_X5_readTest (rqm 7 b)).room s m [.ref (q 3), .ref (q ta)].toArray below meth c H locs 0 0 Q (F0 m 12 ls []) := by
      intro n15
      induction n15 using Nat.strongRecOn with
      | ind n15 ih12 =>
        intro z8 A10 H locs ls f13 f14 hn15 hI hj9 hP hS hl
        have r16 : (0 : Int) ≤ (A10 3 4) ∧ (A10 3 4) ≤ 8 := irRD_4 hI
        refine lv_iload_n hx hb dX5_readTest_12 rfl (lv_at hl 0 rfl) ?_
        refine lv_sipush (v := iI 1600) hx hb dX5_readTest_13 (by decide +kernel) ?_
        refine lv_icmp_ge (tgt := 53) hx hb dX5_readTest_16 (by decide) (fun c17 => ?_) (fun c17 => ?_)
        · have c17 : 1600 ≤ z8 := (i_le ⟨by decide, by decide⟩ (rb f13 (by decide) (by decide))).mp c17
          refine lv_iconst (v := iI 1) hx hb dX5_readTest_53 (by decide +kernel) ?_
          exact RET 1 _ _ _ _ _ ⟨hI, fk.trans (fk.trans (fk.rf) hf5 rfl rfl) hj9 rfl rfl, by omega⟩ hP hS dX5_readTest_54
        · have c17 : ¬ 1600 ≤ z8 := mt (i_le ⟨by decide, by decide⟩ (rb f13 (by decide) (by decide))).mpr c17
          refine lv_aload_n hx hb dX5_readTest_19 rfl (lv_at hl 1 rfl) ?_
          refine lv_bipush (v := iI 16) hx hb dX5_readTest_20 (by decide +kernel) ?_
          refine k_calli (As := [.int (iI 16)]) (rest := []) ⟨hx, hb, hml, hown, hts⟩ hE (kc_X5_passesWord l dC dI cB cI cJ cZ cQ aL aS q _ 16 hI ⟨by decide, by decide⟩) (cwV 1 hts (goodVk (wk_in_6 _ (List.mem_of_getElem? (i := 27) rfl)) (wk_in_6 _ (List.mem_of_getElem? (i := 28) rfl)) (wk_in_6 _ (List.mem_of_getElem? (i := 29) rfl)) (wk_in_5 _ (List.mem_of_getElem? (i := 28) rfl)) (wk_in_6 _ (List.mem_of_getElem? (i := 30) rfl))) rfl rfl rfl (by decide +kernel) ⟨by show (2) + 1 ≤ 10 * (9 - b) + 12; omega, by show 8 + (2 + 11) + (45) ≤ 400 * (9 - b) + 280; omega⟩) hK hDD hA0 hP hS 3 5 (wkRD) rfl rfl hl.1 (Nat.le_of_ble_eq_true rfl) dX5_readTest_22 (fun z18 A19 H locs hw20 hP hS => ?_)
          obtain ⟨hI, hf21, hw20⟩ := hw20
          refine lv_if_eq (tgt := 53) hx hb dX5_readTest_25 (by decide) (fun c22 => ?_) (fun c22 => ?_)
          · have c22 : z18 = 0 := (i_eq0 (rb hw20 (by decide) (by decide))).mp c22
            refine lv_iconst (v := iI 1) hx hb dX5_readTest_53 (by decide +kernel) ?_
            have e23 : A19 3 4 = (A10 3 4) := (hf21 3 4 rfl rfl)
            exact RET 1 _ _ _ _ _ ⟨hI, fk.trans (fk.trans (fk.trans (fk.rf) hf5 rfl rfl) hj9 rfl rfl) hf21 rfl rfl, by omega⟩ hP hS dX5_readTest_54
          · have c22 : ¬ z18 = 0 := mt (i_eq0 (rb hw20 (by decide) (by decide))).mpr c22
            refine lv_aload_n hx hb dX5_readTest_28 rfl (lv_at hl 1 rfl) ?_
            refine lv_aload_n hx hb dX5_readTest_29 rfl (lv_at hl 2 rfl) ?_
            have e24 : A19 3 4 = (A10 3 4) := (hf21 3 4 rfl rfl)
            refine k_calli (As := [.ref (q ta)]) (rest := []) ⟨hx, hb, hml, hown, hts⟩ hE (kc_X5_readBoth l dC dI cB cI cJ cZ cQ aL aS q b _ ta hI hta (by omega) (by omega) IHt) (cwV 1 hts (goodVk (wk_in_7 _ (List.mem_of_getElem? (i := 30) rfl)) (wk_in_7 _ (List.mem_of_getElem? (i := 31) rfl)) (wk_in_7 _ (List.mem_of_getElem? (i := 32) rfl)) (wk_in_5 _ (List.mem_of_getElem? (i := 28) rfl)) (wk_in_7 _ (List.mem_of_getElem? (i := 37) rfl))) rfl rfl rfl (by decide +kernel) ⟨by show (10 * (9 - b) + 11) + 1 ≤ 10 * (9 - b) + 12; omega, by show 8 + (3 + 11) + (400 * (9 - b) + 240) ≤ 400 * (9 - b) + 280; omega⟩) hK hDD hA0 hP hS 3 5 (wkRD) rfl rfl hl.1 (Nat.le_of_ble_eq_true rfl) dX5_readTest_30 (fun z25 A26 H locs hw27 hP hS => ?_)
            obtain ⟨hI, hf28, hw27⟩ := hw27
            have r29 : (0 : Int) ≤ (A26 3 4) ∧ (A26 3 4) ≤ 8 := irRD_4 hI
            have rz25 : 0 ≤ z25 ∧ z25 ≤ 1 := hw27.1
            have hw27 := hw27.2
            refine lv_if_eq (tgt := 45) hx hb dX5_readTest_33 (by decide) (fun c30 => ?_) (fun c30 => ?_)
            · have c30 : z25 = 0 := (i_eq0 (rb rz25 (by decide) (by decide))).mp c30
              clear hw27
              refine lv_iconst (v := iI 0) hx hb dX5_readTest_45 (by decide +kernel) ?_
              exact RET 0 _ _ _ _ _ ⟨hI, fk.trans (fk.trans (fk.trans (fk.trans (fk.rf) hf5 rfl rfl) hj9 rfl rfl) hf21 rfl rfl) hf28 rfl rfl, by omega⟩ hP hS dX5_readTest_46
            · have c30 : ¬ z25 = 0 := mt (i_eq0 (rb rz25 (by decide) (by decide))).mpr c30
              have hw27b := hw27 (by omega)
              clear hw27
              refine lv_aload_n hx hb dX5_readTest_36 rfl (lv_at hl 2 rfl) ?_
              refine lv_bipush (v := iI (-7)) hx hb dX5_readTest_37 (by decide +kernel) ?_
              refine k_calli (As := [.int (iI (-7))]) (rest := []) ⟨hx, hb, hml, hown, hts⟩ hE (kc_X8_add l dC dI cB cI cJ cZ cQ aL aS q _ ta (-7) hI hta ⟨by decide, by decide⟩) (cwV 1 hts (goodVk (wk_in_7 _ (List.mem_of_getElem? (i := 33) rfl)) (wk_in_7 _ (List.mem_of_getElem? (i := 34) rfl)) (wk_in_7 _ (List.mem_of_getElem? (i := 35) rfl)) (wk_in_1 _ (List.mem_of_getElem? (i := 35) rfl)) (wk_in_7 _ (List.mem_of_getElem? (i := 36) rfl))) rfl rfl rfl (by decide +kernel) ⟨by show (0) + 1 ≤ 10 * (9 - b) + 12; omega, by show 8 + (2 + 11) + (0) ≤ 400 * (9 - b) + 280; omega⟩) hK hDD hA0 hP hS ta 8 (wkE hta) rfl rfl hl.1 (Nat.le_of_ble_eq_true rfl) dX5_readTest_39 (fun z31 A32 H locs hw33 hP hS => ?_)
              obtain ⟨hI, hf34, hw33⟩ := hw33
              refine lv_if_ne (tgt := 47) hx hb dX5_readTest_42 (by decide) (fun c35 => ?_) (fun c35 => ?_)
              · have c35 : ¬ z31 = 0 := mt (i_eq0 (rb hw33 (by decide) (by decide))).mpr c35
                refine lv_iinc (v := iI (z8 + 1)) (lv' := [(2, .int (iI (z8 + 1))), (0, .ref (q 3)), (1, .ref (q ta))]) hx hb dX5_readTest_47 hl (k := 0) rfl (i_inc (by omega)) (by decide) rfl (fun ls hl => ?_)
                refine lv_goto (tgt := 12) hx hb dX5_readTest_50 (by decide) ?_
                have e36 : A32 3 4 = (A26 3 4) := (hf34 3 4 rfl rfl)
                exact ih12 _ (by omega) (z8 + 1) _ _ _ _ (by omega) (by omega) rfl hI (fk.trans (fk.trans (fk.trans (fk.trans (fk.rf) hj9 rfl rfl) hf21 rfl rfl) hf28 rfl rfl) hf34 rfl rfl) hP hS (lv_sub hl [0, 1, 2] rfl)
              · have c35 : z31 = 0 := (i_eq0 (rb hw33 (by decide) (by decide))).mp c35
                refine lv_iconst (v := iI 0) hx hb dX5_readTest_45 (by decide +kernel) ?_
                have e37 : A32 3 4 = (A26 3 4) := (hf34 3 4 rfl rfl)
                exact RET 0 _ _ _ _ _ ⟨hI, fk.trans (fk.trans (fk.trans (fk.trans (fk.trans (fk.rf) hf5 rfl rfl) hj9 rfl rfl) hf21 rfl rfl) hf28 rfl rfl) hf34 rfl rfl, by omega⟩ hP hS dX5_readTest_46
    exact L12_11 _ 0 _ _ _ _ (by omega) (by omega) rfl hI (fk.rf) hP hS (lv_sub hl [0, 1, 2] rfl)
  · have c7 : z2 = 0 := (i_eq0 (rb rz2 (by decide) (by decide))).mp c7
    clear hw4
    refine lv_iconst (v := iI 0) hx hb dX5_readTest_8 (by decide +kernel) ?_
    exact RET 0 _ _ _ _ _ ⟨hI, fk.trans (fk.rf) hf5 rfl rfl, by omega⟩ hP hS dX5_readTest_9

theorem kq_test (l : Launch) (dC : Nat → ClassId) (dI : Nat → Nat → Nat) (cB cI cJ cZ cQ : ClassId) (aL aS : Nat) (q : Nat → Nat) (ta : Nat) (hta : isE ta) : ∀ n b : Nat, 8 - b = n → b ≤ 8 → ∀ A : St, IK A → A 3 4 = (b : Int) → KMi l yX5_readTest ws_kc_X5_readTest (rqm 7 b) aL aS (dC, dI) (tyA cB cI cJ cZ cQ) (WK cB cI cJ cZ cQ q) A [.ref (q 3), .ref (q ta)] (fun z u => IK u ∧ fk [71, 102] [(3, 2), (3, 3), (3, 4), (5, 1), (5, 2), (5, 3), (5, 4), (5, 5), (5, 6), (70, 2), (101, 2)] A u ∧ ((0 ≤ z ∧ z ≤ 1) ∧ (z = 1 → u 3 4 = A 3 4))) := by
  intro n
  induction n with
  | zero => exact fun b hb hb8 A hI h => kc_X5_readTest l dC dI cB cI cJ cZ cQ aL aS q b A ta hI hta h hb8 (fun A hI h h8 => absurd h8 (by omega))
  | succ n ih => exact fun b hb hb8 A hI h => kc_X5_readTest l dC dI cB cI cJ cZ cQ aL aS q b A ta hI hta h hb8 (fun A hI h h8 => ih (b + 1) (by omega) h8 A hI (by omega))
