def ws_kc_X8_joined : List Cond := .code yX8_joined cX8_joined 3 (some .int) :: WY
set_option maxHeartbeats 4000000 in
set_option maxRecDepth 100000 in
theorem kc_X8_joined (l : Launch) (dC : Nat → ClassId) (dI : Nat → Nat → Nat) (cB cI cJ cZ cQ : ClassId) (aL aS : Nat) (q : Nat → Nat) (A : St) (x1 x2 x3 : Int) (hI : IK A) (hx1 : (-2147483648 : Int) ≤ x1 ∧ x1 ≤ 2147483647) (hx2 : (-2147483648 : Int) ≤ x2 ∧ x2 ≤ 2147483647) (hx3 : (-2147483648 : Int) ≤ x3 ∧ x3 ≤ 2147483647) : KMi l yX8_joined ws_kc_X8_joined ({ frames := 1, cells := 0, slots := 0, locals := 22 } : Room) aL aS (dC, dI) (tyA cB cI cJ cZ cQ) (WK cB cI cJ cZ cQ q) A [.int (iI x1), .int (iI x2), .int (iI x3)] (fun z u => A = u ∧ (-2147483648 ≤ z ∧ z ≤ 2147483647)) := by
  refine k_meti (cc := cX8_joined) (maxL := 3) WK_adr (plainFor_of_name (by decide +kernel)) rfl (Nat.le_of_ble_eq_true rfl) (fun p e s m below meth c Q AS ls hx hb hml hown hts hK hDD hA0 hE RET H locs hP hS hl => ?_)
  have hown : s.vm.findClass RX8 = some m.cls := hown
  have hl : lv_has ls 3 [(0, .int (iI x1)), (1, .int (iI x2)), (2, .int (iI x3))] := hl
  refine lv_iload_n hx hb dX8_joined_0 rfl (lv_at hl 0 rfl) ?_
  rcases (show (x1 < -17 ∨ -7 < x1) ∨ x1 = -17 ∨ x1 = -16 ∨ x1 = -15 ∨ x1 = -14 ∨ x1 = -13 ∨ x1 = -12 ∨ x1 = -11 ∨ x1 = -10 ∨ x1 = -9 ∨ x1 = -8 ∨ x1 = -7 by omega) with c1 | c1 | c1 | c1 | c1 | c1 | c1 | c1 | c1 | c1 | c1 | c1
  · refine lv_tableOut (tgt := 162) hx hb dX8_joined_1 (by rw [iI_toInt hx1]; exact c1) (by decide) ?_
    refine lv_iload_n hx hb dX8_joined_162 rfl (lv_at hl 1 rfl) ?_
    refine lv_iload_n hx hb dX8_joined_163 rfl (lv_at hl 2 rfl) ?_
    refine k_max hx hb (hml.trans hl.1.symm) hown (hts _ (List.mem_cons_of_mem _ (wk_in_1 _ (List.mem_of_getElem? (i := 37) rfl)))) (hts _ (List.mem_cons_of_mem _ (wk_in_1 _ (List.mem_of_getElem? (i := 38) rfl)))) (hts _ (List.mem_cons_of_mem _ (wk_in_0 _ (List.mem_of_getElem? (i := 47) rfl)))) (hts _ (List.mem_cons_of_mem _ (wk_in_1 _ (List.mem_of_getElem? (i := 39) rfl)))) (Nat.le_of_ble_eq_true rfl) (Nat.le_of_ble_eq_true rfl) (Nat.zero_le _) (Nat.zero_le _) hx2 hx3 dX8_joined_164 (fun z2 hz2 => ?_)
    have rz2 : (-2147483648 : Int) ≤ z2 ∧ z2 ≤ 2147483647 := by omega
    clear hz2
    exact RET z2 _ _ _ _ _ ⟨rfl, rz2⟩ hP hS dX8_joined_167
  · refine tp_i (y := iI (-17)) (congrArg iI c1) ?_
    refine lv_tableIn (off := 155) (tgt := 156) hx hb dX8_joined_1 (by decide +kernel) (by decide +kernel) (by decide +kernel) (by decide) ?_
    refine lv_iload_n hx hb dX8_joined_156 rfl (lv_at hl 1 rfl) ?_
    refine lv_iload_n hx hb dX8_joined_157 rfl (lv_at hl 2 rfl) ?_
    refine k_min hx hb (hml.trans hl.1.symm) hown (hts _ (List.mem_cons_of_mem _ (wk_in_1 _ (List.mem_of_getElem? (i := 49) rfl)))) (hts _ (List.mem_cons_of_mem _ (wk_in_0 _ (List.mem_of_getElem? (i := 46) rfl)))) (hts _ (List.mem_cons_of_mem _ (wk_in_0 _ (List.mem_of_getElem? (i := 47) rfl)))) (hts _ (List.mem_cons_of_mem _ (wk_in_0 _ (List.mem_of_getElem? (i := 48) rfl)))) (Nat.le_of_ble_eq_true rfl) (Nat.le_of_ble_eq_true rfl) (Nat.zero_le _) (Nat.zero_le _) hx2 hx3 dX8_joined_158 (fun z3 hz3 => ?_)
    have rz3 : (-2147483648 : Int) ≤ z3 ∧ z3 ≤ 2147483647 := by omega
    clear hz3
    exact RET z3 _ _ _ _ _ ⟨rfl, rz3⟩ hP hS dX8_joined_161
  · refine tp_i (y := iI (-16)) (congrArg iI c1) ?_
    refine lv_tableIn (off := 141) (tgt := 142) hx hb dX8_joined_1 (by decide +kernel) (by decide +kernel) (by decide +kernel) (by decide) ?_
    refine lv_iload_n hx hb dX8_joined_142 rfl (lv_at hl 2 rfl) ?_
    refine lv_if_ne (tgt := 150) hx hb dX8_joined_143 (by decide) (fun c4 => ?_) (fun c4 => ?_)
    · have c4 : ¬ x3 = 0 := mt (i_eq0 hx3).mpr c4
      refine lv_iload_n hx hb dX8_joined_150 rfl (lv_at hl 1 rfl) ?_
      refine lv_iload_n hx hb dX8_joined_151 rfl (lv_at hl 2 rfl) ?_
      refine k_callSi (As := [.int (iI x2), .int (iI x3)]) (rest := []) ⟨hx, hb, hml, hown, hts⟩ hE (kc_J9_floorMod_7cf53 l dC dI cB cI cJ cZ cQ aL aS q _ x2 x3 hI hx2 hx3 (by omega)) (va_cwS 2 hts (goodSk (wk_in_2 _ (List.mem_of_getElem? (i := 1) rfl)) (wk_in_2 _ (List.mem_of_getElem? (i := 2) rfl)) (wk_in_1 _ (List.mem_of_getElem? (i := 59) rfl)) (wk_in_2 _ (List.mem_of_getElem? (i := 3) rfl))) rfl rfl rfl (by decide +kernel) ⟨Nat.le_of_ble_eq_true rfl, Nat.le_of_ble_eq_true rfl⟩) hK hDD hA0 hP hS rfl hl.1 (Nat.le_of_ble_eq_true rfl) dX8_joined_152 (fun z5 A6 H locs hw7 hP hS => ?_)
      obtain ⟨rfl, hw7⟩ := hw7
      exact RET z5 _ _ _ _ _ ⟨rfl, hw7⟩ hP hS dX8_joined_155
    · have c4 : x3 = 0 := (i_eq0 hx3).mp c4
      refine lv_iconst (v := iI 0) hx hb dX8_joined_146 (by decide +kernel) ?_
      refine lv_goto (tgt := 155) hx hb dX8_joined_147 (by decide) ?_
      exact RET 0 _ _ _ _ _ ⟨rfl, ⟨by decide, by decide⟩⟩ hP hS dX8_joined_155
  · refine tp_i (y := iI (-15)) (congrArg iI c1) ?_
    refine lv_tableIn (off := 127) (tgt := 128) hx hb dX8_joined_1 (by decide +kernel) (by decide +kernel) (by decide +kernel) (by decide) ?_
    refine lv_iload_n hx hb dX8_joined_128 rfl (lv_at hl 2 rfl) ?_
    refine lv_if_ne (tgt := 136) hx hb dX8_joined_129 (by decide) (fun c8 => ?_) (fun c8 => ?_)
    · have c8 : ¬ x3 = 0 := mt (i_eq0 hx3).mpr c8
      refine lv_iload_n hx hb dX8_joined_136 rfl (lv_at hl 1 rfl) ?_
      refine lv_iload_n hx hb dX8_joined_137 rfl (lv_at hl 2 rfl) ?_
      refine k_callSi (As := [.int (iI x2), .int (iI x3)]) (rest := []) ⟨hx, hb, hml, hown, hts⟩ hE (kc_J9_floorDiv_7cf53 l dC dI cB cI cJ cZ cQ aL aS q _ x2 x3 hI hx2 hx3 (by omega)) (va_cwS 2 hts (goodSk (wk_in_1 _ (List.mem_of_getElem? (i := 57) rfl)) (wk_in_1 _ (List.mem_of_getElem? (i := 58) rfl)) (wk_in_1 _ (List.mem_of_getElem? (i := 59) rfl)) (wk_in_2 _ (List.mem_of_getElem? (i := 0) rfl))) rfl rfl rfl (by decide +kernel) ⟨Nat.le_of_ble_eq_true rfl, Nat.le_of_ble_eq_true rfl⟩) hK hDD hA0 hP hS rfl hl.1 (Nat.le_of_ble_eq_true rfl) dX8_joined_138 (fun z9 A10 H locs hw11 hP hS => ?_)
      obtain ⟨rfl, hw11⟩ := hw11
      exact RET z9 _ _ _ _ _ ⟨rfl, hw11⟩ hP hS dX8_joined_141
    · have c8 : x3 = 0 := (i_eq0 hx3).mp c8
      refine lv_iconst (v := iI 0) hx hb dX8_joined_132 (by decide +kernel) ?_
      refine lv_goto (tgt := 141) hx hb dX8_joined_133 (by decide) ?_
      exact RET 0 _ _ _ _ _ ⟨rfl, ⟨by decide, by decide⟩⟩ hP hS dX8_joined_141
  · refine tp_i (y := iI (-14)) (congrArg iI c1) ?_
    refine lv_tableIn (off := 118) (tgt := 119) hx hb dX8_joined_1 (by decide +kernel) (by decide +kernel) (by decide +kernel) (by decide) ?_
    refine lv_iload_n hx hb dX8_joined_119 rfl (lv_at hl 1 rfl) ?_
    refine lv_i2l hx hb dX8_joined_120 rfl ?_
    refine x_absl (fun z12 hz12 => ?_)
    refine lv_iload_n hx hb dX8_joined_121 rfl (lv_at hl 2 rfl) ?_
    refine lv_i2l hx hb dX8_joined_122 rfl ?_
    refine x_absl (fun z13 hz13 => ?_)
    refine lv_lmul hx hb dX8_joined_123 ?_
    refine x_absl (fun z14 hz14 => ?_)
    refine k_callSi (As := [.long (jI z14)]) (rest := []) ⟨hx, hb, hml, hown, hts⟩ hE (kc_X8_bounded l dC dI cB cI cJ cZ cQ aL aS q _ z14 hI (by omega)) (va_cwS 1 hts (goodSk (wk_in_1 _ (List.mem_of_getElem? (i := 50) rfl)) (wk_in_1 _ (List.mem_of_getElem? (i := 51) rfl)) (wk_in_1 _ (List.mem_of_getElem? (i := 35) rfl)) (wk_in_1 _ (List.mem_of_getElem? (i := 52) rfl))) rfl rfl rfl (by decide +kernel) ⟨Nat.le_of_ble_eq_true rfl, Nat.le_of_ble_eq_true rfl⟩) hK hDD hA0 hP hS rfl hl.1 (Nat.le_of_ble_eq_true rfl) dX8_joined_124 (fun z15 A16 H locs hw17 hP hS => ?_)
    obtain ⟨rfl, hw17⟩ := hw17
    exact RET z15 _ _ _ _ _ ⟨rfl, hw17⟩ hP hS dX8_joined_127
  · refine tp_i (y := iI (-13)) (congrArg iI c1) ?_
    refine lv_tableIn (off := 109) (tgt := 110) hx hb dX8_joined_1 (by decide +kernel) (by decide +kernel) (by decide +kernel) (by decide) ?_
    refine lv_iload_n hx hb dX8_joined_110 rfl (lv_at hl 1 rfl) ?_
    refine lv_i2l hx hb dX8_joined_111 rfl ?_
    refine x_absl (fun z18 hz18 => ?_)
    refine lv_iload_n hx hb dX8_joined_112 rfl (lv_at hl 2 rfl) ?_
    refine lv_i2l hx hb dX8_joined_113 rfl ?_
    refine x_absl (fun z19 hz19 => ?_)
    refine lv_lsub hx hb dX8_joined_114 ?_
    refine x_absl (fun z20 hz20 => ?_)
    refine k_callSi (As := [.long (jI z20)]) (rest := []) ⟨hx, hb, hml, hown, hts⟩ hE (kc_X8_bounded l dC dI cB cI cJ cZ cQ aL aS q _ z20 hI (by omega)) (va_cwS 1 hts (goodSk (wk_in_1 _ (List.mem_of_getElem? (i := 50) rfl)) (wk_in_1 _ (List.mem_of_getElem? (i := 51) rfl)) (wk_in_1 _ (List.mem_of_getElem? (i := 35) rfl)) (wk_in_1 _ (List.mem_of_getElem? (i := 52) rfl))) rfl rfl rfl (by decide +kernel) ⟨Nat.le_of_ble_eq_true rfl, Nat.le_of_ble_eq_true rfl⟩) hK hDD hA0 hP hS rfl hl.1 (Nat.le_of_ble_eq_true rfl) dX8_joined_115 (fun z21 A22 H locs hw23 hP hS => ?_)
    obtain ⟨rfl, hw23⟩ := hw23
    exact RET z21 _ _ _ _ _ ⟨rfl, hw23⟩ hP hS dX8_joined_118
  · refine tp_i (y := iI (-12)) (congrArg iI c1) ?_
    refine lv_tableIn (off := 100) (tgt := 101) hx hb dX8_joined_1 (by decide +kernel) (by decide +kernel) (by decide +kernel) (by decide) ?_
    refine lv_iload_n hx hb dX8_joined_101 rfl (lv_at hl 1 rfl) ?_
    refine lv_i2l hx hb dX8_joined_102 rfl ?_
    refine x_absl (fun z24 hz24 => ?_)
    refine lv_iload_n hx hb dX8_joined_103 rfl (lv_at hl 2 rfl) ?_
    refine lv_i2l hx hb dX8_joined_104 rfl ?_
    refine x_absl (fun z25 hz25 => ?_)
    refine lv_ladd hx hb dX8_joined_105 ?_
    refine x_absl (fun z26 hz26 => ?_)
    refine k_callSi (As := [.long (jI z26)]) (rest := []) ⟨hx, hb, hml, hown, hts⟩ hE (kc_X8_bounded l dC dI cB cI cJ cZ cQ aL aS q _ z26 hI (by omega)) (va_cwS 1 hts (goodSk (wk_in_1 _ (List.mem_of_getElem? (i := 50) rfl)) (wk_in_1 _ (List.mem_of_getElem? (i := 51) rfl)) (wk_in_1 _ (List.mem_of_getElem? (i := 35) rfl)) (wk_in_1 _ (List.mem_of_getElem? (i := 52) rfl))) rfl rfl rfl (by decide +kernel) ⟨Nat.le_of_ble_eq_true rfl, Nat.le_of_ble_eq_true rfl⟩) hK hDD hA0 hP hS rfl hl.1 (Nat.le_of_ble_eq_true rfl) dX8_joined_106 (fun z27 A28 H locs hw29 hP hS => ?_)
    obtain ⟨rfl, hw29⟩ := hw29
    exact RET z27 _ _ _ _ _ ⟨rfl, hw29⟩ hP hS dX8_joined_109
  · refine tp_i (y := iI (-11)) (congrArg iI c1) ?_
    refine lv_tableIn (off := 89) (tgt := 90) hx hb dX8_joined_1 (by decide +kernel) (by decide +kernel) (by decide +kernel) (by decide) ?_
    refine lv_iload_n hx hb dX8_joined_90 rfl (lv_at hl 1 rfl) ?_
    refine lv_iload_n hx hb dX8_joined_91 rfl (lv_at hl 2 rfl) ?_
    refine lv_icmp_ne (tgt := 99) hx hb dX8_joined_92 (by decide) (fun c30 => ?_) (fun c30 => ?_)
    · have c30 : ¬ x2 = x3 := mt (i_eq hx2 hx3).mpr c30
      refine lv_iconst (v := iI 0) hx hb dX8_joined_99 (by decide +kernel) ?_
      exact RET 0 _ _ _ _ _ ⟨rfl, ⟨by decide, by decide⟩⟩ hP hS dX8_joined_100
    · have c30 : x2 = x3 := (i_eq hx2 hx3).mp c30
      refine lv_iconst (v := iI 1) hx hb dX8_joined_95 (by decide +kernel) ?_
      refine lv_goto (tgt := 100) hx hb dX8_joined_96 (by decide) ?_
      exact RET 1 _ _ _ _ _ ⟨rfl, ⟨by decide, by decide⟩⟩ hP hS dX8_joined_100
  · refine tp_i (y := iI (-10)) (congrArg iI c1) ?_
    refine lv_tableIn (off := 78) (tgt := 79) hx hb dX8_joined_1 (by decide +kernel) (by decide +kernel) (by decide +kernel) (by decide) ?_
    refine lv_iload_n hx hb dX8_joined_79 rfl (lv_at hl 1 rfl) ?_
    refine lv_iload_n hx hb dX8_joined_80 rfl (lv_at hl 2 rfl) ?_
    refine lv_icmp_le (tgt := 88) hx hb dX8_joined_81 (by decide) (fun c31 => ?_) (fun c31 => ?_)
    · have c31 : x2 ≤ x3 := (i_le hx2 hx3).mp c31
      refine lv_iconst (v := iI 0) hx hb dX8_joined_88 (by decide +kernel) ?_
      exact RET 0 _ _ _ _ _ ⟨rfl, ⟨by decide, by decide⟩⟩ hP hS dX8_joined_89
    · have c31 : ¬ x2 ≤ x3 := mt (i_le hx2 hx3).mpr c31
      refine lv_iconst (v := iI 1) hx hb dX8_joined_84 (by decide +kernel) ?_
      refine lv_goto (tgt := 89) hx hb dX8_joined_85 (by decide) ?_
      exact RET 1 _ _ _ _ _ ⟨rfl, ⟨by decide, by decide⟩⟩ hP hS dX8_joined_89
  · refine tp_i (y := iI (-9)) (congrArg iI c1) ?_
    refine lv_tableIn (off := 67) (tgt := 68) hx hb dX8_joined_1 (by decide +kernel) (by decide +kernel) (by decide +kernel) (by decide) ?_
    refine lv_iload_n hx hb dX8_joined_68 rfl (lv_at hl 1 rfl) ?_
    refine lv_iload_n hx hb dX8_joined_69 rfl (lv_at hl 2 rfl) ?_
    refine lv_icmp_ge (tgt := 77) hx hb dX8_joined_70 (by decide) (fun c32 => ?_) (fun c32 => ?_)
    · have c32 : x3 ≤ x2 := (i_le hx3 hx2).mp c32
      refine lv_iconst (v := iI 0) hx hb dX8_joined_77 (by decide +kernel) ?_
      exact RET 0 _ _ _ _ _ ⟨rfl, ⟨by decide, by decide⟩⟩ hP hS dX8_joined_78
    · have c32 : ¬ x3 ≤ x2 := mt (i_le hx3 hx2).mpr c32
      refine lv_iconst (v := iI 1) hx hb dX8_joined_73 (by decide +kernel) ?_
      refine lv_goto (tgt := 78) hx hb dX8_joined_74 (by decide) ?_
      exact RET 1 _ _ _ _ _ ⟨rfl, ⟨by decide, by decide⟩⟩ hP hS dX8_joined_78
  · refine tp_i (y := iI (-8)) (congrArg iI c1) ?_
    refine lv_tableIn (off := 63) (tgt := 64) hx hb dX8_joined_1 (by decide +kernel) (by decide +kernel) (by decide +kernel) (by decide) ?_
    refine lv_iload_n hx hb dX8_joined_64 rfl (lv_at hl 1 rfl) ?_
    refine lv_iload_n hx hb dX8_joined_65 rfl (lv_at hl 2 rfl) ?_
    refine lv_iand hx hb dX8_joined_66 ?_
    refine x_abs (fun z33 hz33 => ?_)
    exact RET z33 _ _ _ _ _ ⟨rfl, hz33⟩ hP hS dX8_joined_67
  · refine tp_i (y := iI (-7)) (congrArg iI c1) ?_
    refine lv_tableIn (off := 59) (tgt := 60) hx hb dX8_joined_1 (by decide +kernel) (by decide +kernel) (by decide +kernel) (by decide) ?_
    refine lv_iload_n hx hb dX8_joined_60 rfl (lv_at hl 1 rfl) ?_
    refine lv_iload_n hx hb dX8_joined_61 rfl (lv_at hl 2 rfl) ?_
    refine lv_ior hx hb dX8_joined_62 ?_
    refine x_abs (fun z34 hz34 => ?_)
    exact RET z34 _ _ _ _ _ ⟨rfl, hz34⟩ hP hS dX8_joined_63

def ws_kc_X8_holds : List Cond := .code yX8_holds cX8_holds 10 (some .boolean) :: WY
set_option maxHeartbeats 4000000 in
set_option maxRecDepth 100000 in
theorem kc_X8_holds (l : Launch) (dC : Nat → ClassId) (dI : Nat → Nat → Nat) (cB cI cJ cZ cQ : ClassId) (aL aS : Nat) (q : Nat → Nat) (A : St) (ta : Nat) (x1 x2 x3 x4 x5 x6 : Int) (hI : IK A) (hta : isE ta) (hx1 : (-2147483648 : Int) ≤ x1 ∧ x1 ≤ 2147483647) (hx2 : (-2147483648 : Int) ≤ x2 ∧ x2 ≤ 2147483647) (hx3 : (-2147483648 : Int) ≤ x3 ∧ x3 ≤ 2147483647) (hx4 : (-2147483648 : Int) ≤ x4 ∧ x4 ≤ 2147483647) (hx5 : (-2147483648 : Int) ≤ x5 ∧ x5 ≤ 2147483647) (hx6 : (-2147483648 : Int) ≤ x6 ∧ x6 ≤ 2147483647) : KMi l yX8_holds ws_kc_X8_holds ({ frames := 2, cells := 0, slots := 0, locals := 44 } : Room) aL aS (dC, dI) (tyA cB cI cJ cZ cQ) (WK cB cI cJ cZ cQ q) A [.ref (q ta), .int (iI x1), .int (iI x2), .int (iI x3), .int (iI x4), .int (iI x5), .int (iI x6)] (fun z u => IK u ∧ fk [72, 103] [] A u ∧ (0 ≤ z ∧ z ≤ 1)) := by
  refine k_metz (cc := cX8_holds) (maxL := 10) WK_adr (plainFor_of_name (by decide +kernel)) rfl (Nat.le_of_ble_eq_true rfl) (fun z u h => h.2.2) (fun p e s m below meth c Q AS ls hx hb hml hown hts hK hDD hA0 hE RET H locs hP hS hl => ?_)
  have hown : s.vm.findClass RX8 = some m.cls := hown
  have hl : lv_has ls 10 [(0, .ref (q ta)), (1, .int (iI x1)), (2, .int (iI x2)), (3, .int (iI x3)), (4, .int (iI x4)), (5, .int (iI x5)), (6, .int (iI x6))] := hl
  have hiX8 : ∀ w ∈ u_ws RX8 TX8 3, w ∈ ws_kc_X8_holds := fun w h => List.mem_cons_of_mem _ (wy_layX8 w h)
  refine lv_iconst (v := iI 0) hx hb dX8_holds_0 (by decide +kernel) ?_
  refine lv_istore (lv' := [(7, .int (iI 0)), (0, .ref (q ta)), (1, .int (iI x1)), (2, .int (iI x2)), (3, .int (iI x3)), (4, .int (iI x4)), (5, .int (iI x5)), (6, .int (iI x6))]) hx hb dX8_holds_1 hl (by decide) rfl (fun ls hl => ?_)
  refine lv_iload_n hx hb dX8_holds_3 rfl (lv_at hl 2 rfl) ?_
  refine lv_iconst (v := iI 0) hx hb dX8_holds_4 (by decide +kernel) ?_
  refine k_max hx hb (hml.trans hl.1.symm) hown (hts _ (List.mem_cons_of_mem _ (wk_in_1 _ (List.mem_of_getElem? (i := 37) rfl)))) (hts _ (List.mem_cons_of_mem _ (wk_in_1 _ (List.mem_of_getElem? (i := 38) rfl)))) (hts _ (List.mem_cons_of_mem _ (wk_in_0 _ (List.mem_of_getElem? (i := 47) rfl)))) (hts _ (List.mem_cons_of_mem _ (wk_in_1 _ (List.mem_of_getElem? (i := 39) rfl)))) (Nat.le_of_ble_eq_true rfl) (Nat.le_of_ble_eq_true rfl) (Nat.zero_le _) (Nat.zero_le _) hx1 ⟨by decide, by decide⟩ dX8_holds_5 (fun z1 hz1 => ?_)
  have rz1 : (0 : Int) ≤ z1 ∧ z1 ≤ 2147483647 := by omega
  clear hz1
  refine lv_istore (lv' := [(8, .int (iI z1)), (7, .int (iI 0)), (0, .ref (q ta)), (1, .int (iI x1)), (2, .int (iI x2)), (3, .int (iI x3)), (4, .int (iI x4)), (5, .int (iI x5)), (6, .int (iI x6))]) hx hb dX8_holds_8 hl (by decide) rfl (fun ls hl => ?_)
  have L10_6 : ∀ (n10 : Nat) (z2 z3 : Int) (A5 : St) (H : Heap) (locs : List Loc) (ls : Array Slot), (0 ≤ z2 ∧ z2 ≤ 2147483647) → (0 ≤ z3 ∧ z3 ≤ 64) → ((2147483648 - z2).toNat = n10) → IK A5 → fk [72, 103] [] A A5 → va_P (dC, dI) vwCl (WK cB cI cJ cZ cQ q A5) H → va_S AS s.heap H locs → lv_has ls 10 [(8, .int (iI z2)), (7, .int (iI z3)), (0, .ref (q ta)), (1, .int (iI x1)), (2, .int (iI x2)), (3, .int (iI x3)), (4, .int (iI x4)), (5, .int (iI x5)), (6, .int (iI x6))] → W p l e (headSpec ws_kc_X8_holds ({ frames := 2, cells := 0, slots := 0, locals := 44 } : Room)).room s m [.ref (q ta), .int (iI x1), .int (iI x2), .int (iI x3), .int (iI x4), .int (iI x5), .int (iI x6)].toArray below meth c H locs 0 0 Q (F0 m 10 ls []) := by
    intro n10
    induction n10 using Nat.strongRecOn with
    | ind n10 ih7 =>
      intro z2 z3 A5 H locs ls f8 f9 hn10 hI hj4 hP hS hl
      refine lv_iload hx hb dX8_holds_10 (lv_at hl 0 rfl) ?_
      refine lv_iload_n hx hb dX8_holds_12 rfl (lv_at hl 4 rfl) ?_
      have J168_12 : ∀ (H : Heap) (locs : List Loc) (ls : Array Slot), va_P (dC, dI) vwCl (WK cB cI cJ cZ cQ q A5) H → va_S AS s.heap H locs → lv_has ls 10 [(8, .int (iI z2)), (7, .int (iI z3)), (0, .ref (q ta)), (1, .int (iI x1)), (2, .int (iI x2)), (3, .int (iI x3)), (4, .int (iI x4)), (5, .int (iI x5)), (6, .int (iI x6))] → W p l e (headSpec ws_kc_X8_holds ({ frames := 2, cells := 0, slots := 0, locals := 44 } : Room)).room s m [.ref (q ta), .int (iI x1), .int (iI x2), .int (iI x3), .int (iI x4), .int (iI x5), .int (iI x6)].toArray below meth c H locs 0 0 Q (F0 m 168 ls []) := by
        intro H locs ls hP hS hl
        refine lv_iload hx hb dX8_holds_168 (lv_at hl 1 rfl) ?_
        refine lv_iconst (v := iI 1) hx hb dX8_holds_170 (by decide +kernel) ?_
        refine lv_icmp_ne (tgt := 188) hx hb dX8_holds_171 (by decide) (fun c43 => ?_) (fun c43 => ?_)
        · have c43 : ¬ z3 = 1 := mt (i_eq (rb f9 (by decide) (by decide)) ⟨by decide, by decide⟩).mpr c43
          refine lv_iconst (v := iI 0) hx hb dX8_holds_188 (by decide +kernel) ?_
          exact RET 0 _ _ _ _ _ ⟨hI, fk.trans (fk.rf) hj4 rfl rfl, ⟨by decide, by decide⟩⟩ hP hS dX8_holds_189
        · have c43 : z3 = 1 := (i_eq (rb f9 (by decide) (by decide)) ⟨by decide, by decide⟩).mp c43
          refine lv_aload_n hx hb dX8_holds_174 rfl (lv_at hl 2 rfl) ?_
          refine va_get (D := (dC, dI)) (ci := 8) (v := .ref (q (ta + 2))) (C := RX8) (T := TX8) (N := 3) hx hb hts hiX8 hown hK hP ta (wkE hta) rfl 1 (by decide) (hts _ (List.mem_cons_of_mem _ (wk_in_1 _ (List.mem_of_getElem? (i := 42) rfl)))) (fun _ h9 => h9) rfl dX8_holds_175 ?_
          refine lv_iconst (v := iI 0) hx hb dX8_holds_178 (by decide +kernel) ?_
          refine x_iald (Wf := WK cB cI cJ cZ cQ q) hx hb hK hP (ta + 2) 1 (wkEs hta) rfl (by decide) (by decide) dX8_holds_179 (fun z44 hz44 => ?_)
          have rz44 : (-2147483648 : Int) ≤ z44 ∧ z44 ≤ 2147483647 := by rw [hz44]; exact irEs hta hI
          refine lv_iconst (v := iI 1) hx hb dX8_holds_180 (by decide +kernel) ?_
          refine lv_icmp_ne (tgt := 188) hx hb dX8_holds_181 (by decide) (fun c45 => ?_) (fun c45 => ?_)
          · have c45 : ¬ z44 = 1 := mt (i_eq rz44 ⟨by decide, by decide⟩).mpr c45
            refine lv_iconst (v := iI 0) hx hb dX8_holds_188 (by decide +kernel) ?_
            exact RET 0 _ _ _ _ _ ⟨hI, fk.trans (fk.rf) hj4 rfl rfl, ⟨by decide, by decide⟩⟩ hP hS dX8_holds_189
          · have c45 : z44 = 1 := (i_eq rz44 ⟨by decide, by decide⟩).mp c45
            refine lv_iconst (v := iI 1) hx hb dX8_holds_184 (by decide +kernel) ?_
            refine lv_goto (tgt := 189) hx hb dX8_holds_185 (by decide) ?_
            exact RET 1 _ _ _ _ _ ⟨hI, fk.trans (fk.rf) hj4 rfl rfl, ⟨by decide, by decide⟩⟩ hP hS dX8_holds_189
      refine lv_icmp_ge (tgt := 168) hx hb dX8_holds_13 (by decide) (fun c11 => ?_) (fun c11 => ?_)
      · have c11 : x2 ≤ z2 := (i_le hx2 (rb f8 (by decide) (by decide))).mp c11
        exact J168_12 _ _ _ hP hS (lv_sub hl [0, 1, 2, 3, 4, 5, 6, 7, 8] rfl)
      · have c11 : ¬ x2 ≤ z2 := mt (i_le hx2 (rb f8 (by decide) (by decide))).mpr c11
        refine lv_iload hx hb dX8_holds_16 (lv_at hl 0 rfl) ?_
        refine lv_aload_n hx hb dX8_holds_18 rfl (lv_at hl 2 rfl) ?_
        have e13 : A5 ta 2 = (A ta 2) := (hj4 ta 2 (isE.b2 (o := fun b => List.contains [72, 103] b) hta rfl rfl) (isE.b2 (o := fun b => fin2 [] b 2) hta rfl rfl))
        have r14 : (0 : Int) ≤ (A ta 2) ∧ (A ta 2) ≤ 1600 := by rw [← e13]; exact irE_2 hta hI
        refine va_get (D := (dC, dI)) (ci := 8) (v := .int (iI (A5 ta 2))) (C := RX8) (T := TX8) (N := 3) hx hb hts hiX8 hown hK hP ta (wkE hta) rfl 2 (by decide) (hts _ (List.mem_cons_of_mem _ (wk_in_1 _ (List.mem_of_getElem? (i := 40) rfl)))) (fun _ h9 => h9) rfl dX8_holds_19 ?_
        refine tp_i (y := iI (A ta 2)) (congrArg iI e13) ?_
        refine lv_icmp_ge (tgt := 168) hx hb dX8_holds_22 (by decide) (fun c15 => ?_) (fun c15 => ?_)
        · have c15 : (A ta 2) ≤ z2 := (i_le (rb r14 (by decide) (by decide)) (rb f8 (by decide) (by decide))).mp c15
          exact J168_12 _ _ _ hP hS (lv_sub hl [0, 1, 2, 3, 4, 5, 6, 7, 8] rfl)
        · have c15 : ¬ (A ta 2) ≤ z2 := mt (i_le (rb r14 (by decide) (by decide)) (rb f8 (by decide) (by decide))).mpr c15
          refine lv_iload hx hb dX8_holds_25 (lv_at hl 0 rfl) ?_
          refine lv_sipush (v := iI 1600) hx hb dX8_holds_27 (by decide +kernel) ?_
          refine lv_icmp_ge (tgt := 168) hx hb dX8_holds_30 (by decide) (fun c16 => False.elim (by have c16 : 1600 ≤ z2 := (i_le ⟨by decide, by decide⟩ (rb f8 (by decide) (by decide))).mp c16; omega)) (fun _ => ?_)
          refine lv_aload_n hx hb dX8_holds_33 rfl (lv_at hl 2 rfl) ?_
          refine va_get (D := (dC, dI)) (ci := 8) (v := .ref (q (ta + 1))) (C := RX8) (T := TX8) (N := 3) hx hb hts hiX8 hown hK hP ta (wkE hta) rfl 0 (by decide) (hts _ (List.mem_cons_of_mem _ (wk_in_1 _ (List.mem_of_getElem? (i := 41) rfl)))) (fun _ h9 => h9) rfl dX8_holds_34 ?_
          refine lv_iload hx hb dX8_holds_37 (lv_at hl 0 rfl) ?_
          have a17 : ∀ k, A5 (ta + 1) k = A (ta + 1) k := fun k => hj4 (ta + 1) k (isE.b2 (o := fun b => List.contains [72, 103] (b + 1)) hta rfl rfl) (isE.b2 (o := fun b => fin2 [] (b + 1) k) hta rfl rfl)
          refine x_iald (Wf := WK cB cI cJ cZ cQ q) hx hb hK hP (ta + 1) 1 (wkEc hta) rfl (by omega) (by decide) dX8_holds_39 (fun z18 hz18 => ?_)
          have rz18 : (-2147483648 : Int) ≤ z18 ∧ z18 ≤ 2147483647 := by rw [hz18]; exact irEc hta hI
          have hz18 : z18 = A (ta + 1) (z2).toNat := hz18.trans (a17 _)
          refine lv_istore (lv' := [(9, .int (iI z18)), (8, .int (iI z2)), (7, .int (iI z3)), (0, .ref (q ta)), (1, .int (iI x1)), (2, .int (iI x2)), (3, .int (iI x3)), (4, .int (iI x4)), (5, .int (iI x5)), (6, .int (iI x6))]) hx hb dX8_holds_40 hl (by decide) rfl (fun ls hl => ?_)
          refine lv_iload hx hb dX8_holds_42 (lv_at hl 0 rfl) ?_
          refine lv_bipush (v := iI (-5)) hx hb dX8_holds_44 (by decide +kernel) ?_
          have J162_20 : ∀ (z38 : Int) (A40 : St) (H : Heap) (locs : List Loc) (ls : Array Slot), (1 ≤ z38 ∧ z38 ≤ 64) → IK A40 → fk [72, 103] [] A5 A40 → va_P (dC, dI) vwCl (WK cB cI cJ cZ cQ q A40) H → va_S AS s.heap H locs → lv_has ls 10 [(7, .int (iI z38)), (9, .int (iI z18)), (8, .int (iI z2)), (0, .ref (q ta)), (1, .int (iI x1)), (2, .int (iI x2)), (3, .int (iI x3)), (4, .int (iI x4)), (5, .int (iI x5)), (6, .int (iI x6))] → W p l e (headSpec ws_kc_X8_holds ({ frames := 2, cells := 0, slots := 0, locals := 44 } : Room)).room s m [.ref (q ta), .int (iI x1), .int (iI x2), .int (iI x3), .int (iI x4), .int (iI x5), .int (iI x6)].toArray below meth c H locs 0 0 Q (F0 m 162 ls []) := by
            intro z38 A40 H locs ls f41 hI hj39 hP hS hl
            refine lv_iinc (v := iI (z2 + 1)) (lv' := [(8, .int (iI (z2 + 1))), (7, .int (iI z38)), (9, .int (iI z18)), (0, .ref (q ta)), (1, .int (iI x1)), (2, .int (iI x2)), (3, .int (iI x3)), (4, .int (iI x4)), (5, .int (iI x5)), (6, .int (iI x6))]) hx hb dX8_holds_162 hl (k := 2) rfl (i_inc (by omega)) (by decide) rfl (fun ls hl => ?_)
            refine lv_goto (tgt := 10) hx hb dX8_holds_165 (by decide) ?_
            exact ih7 _ (by omega) (z2 + 1) z38 _ _ _ _ (by omega) (by omega) rfl hI (fk.trans (fk.trans (fk.rf) hj4 rfl rfl) hj39 rfl rfl) hP hS (lv_sub hl [0, 1, 3, 4, 5, 6, 7, 8, 9] rfl)
          refine lv_icmp_lt (tgt := 83) hx hb dX8_holds_46 (by decide) (fun c19 => ?_) (fun c19 => ?_)
          · have c19 : z18 < (-5) := (i_lt rz18 ⟨by decide, by decide⟩).mp c19
            refine lv_iload hx hb dX8_holds_83 (lv_at hl 0 rfl) ?_
            refine lv_bipush (v := iI (-6)) hx hb dX8_holds_85 (by decide +kernel) ?_
            refine lv_icmp_ne (tgt := 121) hx hb dX8_holds_87 (by decide) (fun c21 => ?_) (fun c21 => ?_)
            · have c21 : ¬ z18 = (-6) := mt (i_eq rz18 ⟨by decide, by decide⟩).mpr c21
              refine lv_iload hx hb dX8_holds_121 (lv_at hl 2 rfl) ?_
              refine lv_iconst (v := iI 2) hx hb dX8_holds_123 (by decide +kernel) ?_
              refine lv_icmp_ge (tgt := 129) hx hb dX8_holds_124 (by decide) (fun c22 => ?_) (fun c22 => ?_)
              · have c22 : 2 ≤ z3 := (i_le ⟨by decide, by decide⟩ (rb f9 (by decide) (by decide))).mp c22
                refine lv_iinc (v := iI (z3 - 1)) (lv' := [(7, .int (iI (z3 - 1))), (9, .int (iI z18)), (8, .int (iI z2)), (0, .ref (q ta)), (1, .int (iI x1)), (2, .int (iI x2)), (3, .int (iI x3)), (4, .int (iI x4)), (5, .int (iI x5)), (6, .int (iI x6))]) hx hb dX8_holds_129 hl (k := 2) rfl (i_inc (by omega)) (by decide) rfl (fun ls hl => ?_)
                refine lv_aload_n hx hb dX8_holds_132 rfl (lv_at hl 3 rfl) ?_
                refine va_get (D := (dC, dI)) (ci := 8) (v := .ref (q (ta + 2))) (C := RX8) (T := TX8) (N := 3) hx hb hts hiX8 hown hK hP ta (wkE hta) rfl 1 (by decide) (hts _ (List.mem_cons_of_mem _ (wk_in_1 _ (List.mem_of_getElem? (i := 42) rfl)))) (fun _ h9 => h9) rfl dX8_holds_133 ?_
                refine lv_iload hx hb dX8_holds_136 (lv_at hl 0 rfl) ?_
                refine lv_iconst (v := iI 1) hx hb dX8_holds_138 (by decide +kernel) ?_
                refine x_subv (v := z3 - 2) hx hb dX8_holds_139 (by omega) ?_
                refine lv_iload hx hb dX8_holds_140 (lv_at hl 1 rfl) ?_
                refine lv_aload_n hx hb dX8_holds_142 rfl (lv_at hl 3 rfl) ?_
                refine va_get (D := (dC, dI)) (ci := 8) (v := .ref (q (ta + 2))) (C := RX8) (T := TX8) (N := 3) hx hb hts hiX8 hown hK hP ta (wkE hta) rfl 1 (by decide) (hts _ (List.mem_cons_of_mem _ (wk_in_1 _ (List.mem_of_getElem? (i := 42) rfl)))) (fun _ h9 => h9) rfl dX8_holds_143 ?_
                refine lv_iload hx hb dX8_holds_146 (lv_at hl 0 rfl) ?_
                refine lv_iconst (v := iI 1) hx hb dX8_holds_148 (by decide +kernel) ?_
                refine x_subv (v := z3 - 2) hx hb dX8_holds_149 (by omega) ?_
                refine x_iald (Wf := WK cB cI cJ cZ cQ q) hx hb hK hP (ta + 2) 1 (wkEs hta) rfl (by omega) (by decide) dX8_holds_150 (fun z23 hz23 => ?_)
                have rz23 : (-2147483648 : Int) ≤ z23 ∧ z23 ≤ 2147483647 := by rw [hz23]; exact irEs hta hI
                refine lv_aload_n hx hb dX8_holds_151 rfl (lv_at hl 3 rfl) ?_
                refine va_get (D := (dC, dI)) (ci := 8) (v := .ref (q (ta + 2))) (C := RX8) (T := TX8) (N := 3) hx hb hts hiX8 hown hK hP ta (wkE hta) rfl 1 (by decide) (hts _ (List.mem_cons_of_mem _ (wk_in_1 _ (List.mem_of_getElem? (i := 42) rfl)))) (fun _ h9 => h9) rfl dX8_holds_152 ?_
                refine lv_iload hx hb dX8_holds_155 (lv_at hl 0 rfl) ?_
                refine x_iald (Wf := WK cB cI cJ cZ cQ q) hx hb hK hP (ta + 2) 1 (wkEs hta) rfl (by omega) (by decide) dX8_holds_157 (fun z24 hz24 => ?_)
                have rz24 : (-2147483648 : Int) ≤ z24 ∧ z24 ≤ 2147483647 := by rw [hz24]; exact irEs hta hI
                refine k_callSi (As := [.int (iI z18), .int (iI z23), .int (iI z24)]) (rest := [.int (iI (z3 - 2)), .ref (q (ta + 2))]) ⟨hx, hb, hml, hown, hts⟩ hE (kc_X8_joined l dC dI cB cI cJ cZ cQ aL aS q _ z18 z23 z24 hI rz18 rz23 rz24) (va_cwS 3 hts (goodSk (wk_in_1 _ (List.mem_of_getElem? (i := 46) rfl)) (wk_in_1 _ (List.mem_of_getElem? (i := 47) rfl)) (wk_in_1 _ (List.mem_of_getElem? (i := 35) rfl)) (wk_in_1 _ (List.mem_of_getElem? (i := 48) rfl))) rfl rfl rfl (by decide +kernel) ⟨Nat.le_of_ble_eq_true rfl, Nat.le_of_ble_eq_true rfl⟩) hK hDD hA0 hP hS rfl hl.1 (Nat.le_of_ble_eq_true rfl) dX8_holds_158 (fun z25 A26 H locs hw27 hP hS => ?_)
                obtain ⟨rfl, hw27⟩ := hw27
                refine k_iast (Wf := WK cB cI cJ cZ cQ q) hx hb hK hP hDD hS (ta + 2) 1 (wkEs hta) rfl (by omega) (by decide) dX8_holds_161 (wsEs hta) (fun H locs A28 hA28 hP hS => ?_)
                have hI := isEs hta hA28 hI (show (-2147483648 : Int) ≤ z25 ∧ z25 ≤ 2147483647 from hw27)
                exact J162_20 (z3 - 1) _ _ _ _ (by omega) hI (fk.da (fk.rf) hA28 (isE.b2 (o := fun b => List.contains [72, 103] (b + 2)) hta rfl rfl)) hP hS (lv_sub hl [0, 1, 2, 3, 4, 5, 6, 7, 8, 9] rfl)
              · have c22 : ¬ 2 ≤ z3 := mt (i_le ⟨by decide, by decide⟩ (rb f9 (by decide) (by decide))).mpr c22
                refine lv_iconst (v := iI 0) hx hb dX8_holds_127 (by decide +kernel) ?_
                exact RET 0 _ _ _ _ _ ⟨hI, fk.trans (fk.rf) hj4 rfl rfl, ⟨by decide, by decide⟩⟩ hP hS dX8_holds_128
            · have c21 : z18 = (-6) := (i_eq rz18 ⟨by decide, by decide⟩).mp c21
              refine lv_iload hx hb dX8_holds_90 (lv_at hl 2 rfl) ?_
              refine lv_iconst (v := iI 1) hx hb dX8_holds_92 (by decide +kernel) ?_
              refine lv_icmp_ge (tgt := 98) hx hb dX8_holds_93 (by decide) (fun c29 => ?_) (fun c29 => ?_)
              · have c29 : 1 ≤ z3 := (i_le ⟨by decide, by decide⟩ (rb f9 (by decide) (by decide))).mp c29
                refine lv_aload_n hx hb dX8_holds_98 rfl (lv_at hl 3 rfl) ?_
                refine va_get (D := (dC, dI)) (ci := 8) (v := .ref (q (ta + 2))) (C := RX8) (T := TX8) (N := 3) hx hb hts hiX8 hown hK hP ta (wkE hta) rfl 1 (by decide) (hts _ (List.mem_cons_of_mem _ (wk_in_1 _ (List.mem_of_getElem? (i := 42) rfl)))) (fun _ h9 => h9) rfl dX8_holds_99 ?_
                refine lv_iload hx hb dX8_holds_102 (lv_at hl 2 rfl) ?_
                refine lv_iconst (v := iI 1) hx hb dX8_holds_104 (by decide +kernel) ?_
                refine x_subv (v := z3 - 1) hx hb dX8_holds_105 (by omega) ?_
                refine lv_iconst (v := iI 1) hx hb dX8_holds_106 (by decide +kernel) ?_
                refine lv_aload_n hx hb dX8_holds_107 rfl (lv_at hl 3 rfl) ?_
                refine va_get (D := (dC, dI)) (ci := 8) (v := .ref (q (ta + 2))) (C := RX8) (T := TX8) (N := 3) hx hb hts hiX8 hown hK hP ta (wkE hta) rfl 1 (by decide) (hts _ (List.mem_cons_of_mem _ (wk_in_1 _ (List.mem_of_getElem? (i := 42) rfl)))) (fun _ h9 => h9) rfl dX8_holds_108 ?_
                refine lv_iload hx hb dX8_holds_111 (lv_at hl 2 rfl) ?_
                refine lv_iconst (v := iI 1) hx hb dX8_holds_113 (by decide +kernel) ?_
                refine x_subv (v := z3 - 1) hx hb dX8_holds_114 (by omega) ?_
                refine x_iald (Wf := WK cB cI cJ cZ cQ q) hx hb hK hP (ta + 2) 1 (wkEs hta) rfl (by omega) (by decide) dX8_holds_115 (fun z30 hz30 => ?_)
                have rz30 : (-2147483648 : Int) ≤ z30 ∧ z30 ≤ 2147483647 := by rw [hz30]; exact irEs hta hI
                refine x_subv (v := -z30 + 1) hx hb dX8_holds_116 (by omega) ?_
                refine x_abs (fun z31 hz31 => ?_)
                refine k_iast (Wf := WK cB cI cJ cZ cQ q) hx hb hK hP hDD hS (ta + 2) 1 (wkEs hta) rfl (by omega) (by decide) dX8_holds_117 (wsEs hta) (fun H locs A32 hA32 hP hS => ?_)
                have hI := isEs hta hA32 hI (show (-2147483648 : Int) ≤ z31 ∧ z31 ≤ 2147483647 from hz31)
                refine lv_goto (tgt := 162) hx hb dX8_holds_118 (by decide) ?_
                exact J162_20 z3 _ _ _ _ (by omega) hI (fk.da (fk.rf) hA32 (isE.b2 (o := fun b => List.contains [72, 103] (b + 2)) hta rfl rfl)) hP hS (lv_sub hl [2, 0, 1, 3, 4, 5, 6, 7, 8, 9] rfl)
              · have c29 : ¬ 1 ≤ z3 := mt (i_le ⟨by decide, by decide⟩ (rb f9 (by decide) (by decide))).mpr c29
                refine lv_iconst (v := iI 0) hx hb dX8_holds_96 (by decide +kernel) ?_
                exact RET 0 _ _ _ _ _ ⟨hI, fk.trans (fk.rf) hj4 rfl rfl, ⟨by decide, by decide⟩⟩ hP hS dX8_holds_97
          · have c19 : ¬ z18 < (-5) := mt (i_lt rz18 ⟨by decide, by decide⟩).mpr c19
            refine lv_iload hx hb dX8_holds_49 (lv_at hl 2 rfl) ?_
            refine lv_bipush (v := iI 64) hx hb dX8_holds_51 (by decide +kernel) ?_
            refine lv_icmp_lt (tgt := 58) hx hb dX8_holds_53 (by decide) (fun c33 => ?_) (fun c33 => ?_)
            · have c33 : z3 < 64 := (i_lt (rb f9 (by decide) (by decide)) ⟨by decide, by decide⟩).mp c33
              refine lv_aload_n hx hb dX8_holds_58 rfl (lv_at hl 3 rfl) ?_
              refine va_get (D := (dC, dI)) (ci := 8) (v := .ref (q (ta + 2))) (C := RX8) (T := TX8) (N := 3) hx hb hts hiX8 hown hK hP ta (wkE hta) rfl 1 (by decide) (hts _ (List.mem_cons_of_mem _ (wk_in_1 _ (List.mem_of_getElem? (i := 42) rfl)))) (fun _ h9 => h9) rfl dX8_holds_59 ?_
              refine lv_iload hx hb dX8_holds_62 (lv_at hl 2 rfl) ?_
              refine lv_iload hx hb dX8_holds_64 (lv_at hl 0 rfl) ?_
              refine lv_iload_n hx hb dX8_holds_66 rfl (lv_at hl 6 rfl) ?_
              refine lv_iload hx hb dX8_holds_67 (lv_at hl 7 rfl) ?_
              refine lv_iload hx hb dX8_holds_69 (lv_at hl 8 rfl) ?_
              refine lv_iload hx hb dX8_holds_71 (lv_at hl 9 rfl) ?_
              refine k_callSi (As := [.int (iI z18), .int (iI x3), .int (iI x4), .int (iI x5), .int (iI x6)]) (rest := [.int (iI z3), .ref (q (ta + 2))]) ⟨hx, hb, hml, hown, hts⟩ hE (kc_X8_value l dC dI cB cI cJ cZ cQ aL aS q _ z18 x3 x4 x5 x6 hI rz18 hx3 hx4 hx5 hx6) (va_cwS 5 hts (goodSk (wk_in_1 _ (List.mem_of_getElem? (i := 43) rfl)) (wk_in_1 _ (List.mem_of_getElem? (i := 44) rfl)) (wk_in_1 _ (List.mem_of_getElem? (i := 35) rfl)) (wk_in_1 _ (List.mem_of_getElem? (i := 45) rfl))) rfl rfl rfl (by decide +kernel) ⟨Nat.le_of_ble_eq_true rfl, Nat.le_of_ble_eq_true rfl⟩) hK hDD hA0 hP hS rfl hl.1 (Nat.le_of_ble_eq_true rfl) dX8_holds_73 (fun z34 A35 H locs hw36 hP hS => ?_)
              obtain ⟨rfl, hw36⟩ := hw36
              refine k_iast (Wf := WK cB cI cJ cZ cQ q) hx hb hK hP hDD hS (ta + 2) 1 (wkEs hta) rfl (by omega) (by decide) dX8_holds_76 (wsEs hta) (fun H locs A37 hA37 hP hS => ?_)
              have hI := isEs hta hA37 hI (show (-2147483648 : Int) ≤ z34 ∧ z34 ≤ 2147483647 from hw36)
              refine lv_iinc (v := iI (z3 + 1)) (lv' := [(7, .int (iI (z3 + 1))), (9, .int (iI z18)), (8, .int (iI z2)), (0, .ref (q ta)), (1, .int (iI x1)), (2, .int (iI x2)), (3, .int (iI x3)), (4, .int (iI x4)), (5, .int (iI x5)), (6, .int (iI x6))]) hx hb dX8_holds_77 hl (k := 2) rfl (i_inc (by omega)) (by decide) rfl (fun ls hl => ?_)
              refine lv_goto (tgt := 162) hx hb dX8_holds_80 (by decide) ?_
              exact J162_20 (z3 + 1) _ _ _ _ (by omega) hI (fk.da (fk.rf) hA37 (isE.b2 (o := fun b => List.contains [72, 103] (b + 2)) hta rfl rfl)) hP hS (lv_sub hl [0, 1, 2, 3, 4, 5, 6, 7, 8, 9] rfl)
            · have c33 : ¬ z3 < 64 := mt (i_lt (rb f9 (by decide) (by decide)) ⟨by decide, by decide⟩).mpr c33
              refine lv_iconst (v := iI 0) hx hb dX8_holds_56 (by decide +kernel) ?_
              exact RET 0 _ _ _ _ _ ⟨hI, fk.trans (fk.rf) hj4 rfl rfl, ⟨by decide, by decide⟩⟩ hP hS dX8_holds_57
  exact L10_6 _ z1 0 _ _ _ _ (by omega) (by omega) rfl hI (fk.rf) hP hS (lv_sub hl [0, 1, 2, 3, 4, 5, 6, 7, 8] rfl)

def ws_kc_X0_prepareBars : List Cond := .code yX0_prepareBars cX0_prepareBars 8 none :: WY
set_option maxHeartbeats 4000000 in
set_option maxRecDepth 100000 in
theorem kc_X0_prepareBars (l : Launch) (dC : Nat → ClassId) (dI : Nat → Nat → Nat) (cB cI cJ cZ cQ : ClassId) (aL aS : Nat) (q : Nat → Nat) (A : St) (ta : Nat) (x2 x3 : Int) (hI : IK A) (hta : isT ta) (hx2 : (-2147483648 : Int) ≤ x2 ∧ x2 ≤ 2147483647) (hx3 : (-2147483648 : Int) ≤ x3 ∧ x3 ≤ 2147483647) : KMv l yX0_prepareBars ws_kc_X0_prepareBars ({ frames := 3, cells := 0, slots := 0, locals := 73 } : Room) aL aS (dC, dI) (tyA cB cI cJ cZ cQ) (WK cB cI cJ cZ cQ q) A [.ref (q 6), .ref (q ta), .int (iI x2), .int (iI x3)] (fun u => IK u ∧ fk [16, 72, 103] [] A u ∧ (True)) := by
  refine k_metv (cc := cX0_prepareBars) (maxL := 8) WK_adr (plainFor_of_name (by decide +kernel)) rfl (Nat.le_of_ble_eq_true rfl) (fun p e s m below meth c Q AS ls hx hb hml hown hts hK hDD hA0 hE RET H locs hP hS hl => ?_)
  have hown : s.vm.findClass RX0 = some m.cls := hown
  have hl : lv_has ls 8 [(0, .ref (q 6)), (1, .ref (q ta)), (2, .int (iI x2)), (3, .int (iI x3))] := hl
  have hiX9 : ∀ w ∈ u_ws RX9 TX9 16, w ∈ ws_kc_X0_prepareBars := fun w h => List.mem_cons_of_mem _ (wy_layX9 w h)
  have hiX0 : ∀ w ∈ u_ws RX0 TX0 17, w ∈ ws_kc_X0_prepareBars := fun w h => List.mem_cons_of_mem _ (wy_layX0 w h)
  refine lv_iconst (v := iI 0) hx hb dX0_prepareBars_0 (by decide +kernel) ?_
  refine lv_istore (lv' := [(4, .int (iI 0)), (0, .ref (q 6)), (1, .ref (q ta)), (2, .int (iI x2)), (3, .int (iI x3))]) hx hb dX0_prepareBars_1 hl (by decide) rfl (fun ls hl => ?_)
  have L3_4 : ∀ (n7 : Nat) (z1 : Int) (A3 : St) (H : Heap) (locs : List Loc) (ls : Array Slot), (0 ≤ z1 ∧ z1 ≤ 2147483647) → ((89 - z1).toNat = n7) → IK A3 → fk [16] [] A A3 → va_P (dC, dI) vwCl (WK cB cI cJ cZ cQ q A3) H → va_S AS s.heap H locs → lv_has ls 8 [(4, .int (iI z1)), (0, .ref (q 6)), (1, .ref (q ta)), (2, .int (iI x2)), (3, .int (iI x3))] → W p l e (headSpec ws_kc_X0_prepareBars ({ frames := 3, cells := 0, slots := 0, locals := 73 } : Room)).room s m [.ref (q 6), .ref (q ta), .int (iI x2), .int (iI x3)].toArray below meth c H locs 0 0 Q (F0 m 3 ls []) := by
    intro n7
    induction n7 using Nat.strongRecOn with
    | ind n7 ih5 =>
      intro z1 A3 H locs ls f6 hn7 hI hj2 hP hS hl
      refine lv_iload hx hb dX0_prepareBars_3 (lv_at hl 0 rfl) ?_
      refine lv_bipush (v := iI 88) hx hb dX0_prepareBars_5 (by decide +kernel) ?_
      refine lv_icmp_ge (tgt := 24) hx hb dX0_prepareBars_7 (by decide) (fun c8 => ?_) (fun c8 => ?_)
      · have c8 : 88 ≤ z1 := (i_le ⟨by decide, by decide⟩ (rb f6 (by decide) (by decide))).mp c8
        refine lv_iconst (v := iI 0) hx hb dX0_prepareBars_24 (by decide +kernel) ?_
        refine lv_istore (lv' := [(4, .int (iI 0)), (0, .ref (q 6)), (1, .ref (q ta)), (2, .int (iI x2)), (3, .int (iI x3))]) hx hb dX0_prepareBars_25 hl (by decide) rfl (fun ls hl => ?_)
        have L27_12 : ∀ (n18 : Nat) (z9 : Int) (A11 : St) (H : Heap) (locs : List Loc) (ls : Array Slot), (0 ≤ z9 ∧ z9 ≤ 2147483647) → ((7 - z9).toNat = n18) → IK A11 → fk [16, 72, 103] [] A3 A11 → va_P (dC, dI) vwCl (WK cB cI cJ cZ cQ q A11) H → va_S AS s.heap H locs → lv_has ls 8 [(4, .int (iI z9)), (0, .ref (q 6)), (1, .ref (q ta)), (2, .int (iI x2)), (3, .int (iI x3))] → W p l e (headSpec ws_kc_X0_prepareBars ({ frames := 3, cells := 0, slots := 0, locals := 73 } : Room)).room s m [.ref (q 6), .ref (q ta), .int (iI x2), .int (iI x3)].toArray below meth c H locs 0 0 Q (F0 m 27 ls []) := by
          intro n18
          induction n18 using Nat.strongRecOn with
          | ind n18 ih13 =>
            intro z9 A11 H locs ls f14 hn18 hI hj10 hP hS hl
            refine lv_iload hx hb dX0_prepareBars_27 (lv_at hl 0 rfl) ?_
            refine lv_aload_n hx hb dX0_prepareBars_29 rfl (lv_at hl 2 rfl) ?_
            refine va_get (D := (dC, dI)) (ci := 9) (v := .ref (q (ta + 1))) (C := RX9) (T := TX9) (N := 16) hx hb hts hiX9 hown hK hP ta (wkT hta) rfl 0 (by decide) (hts _ (List.mem_cons_of_mem _ (wk_in_0 _ (List.mem_of_getElem? (i := 1) rfl)))) (fun _ h9 => h9) rfl dX0_prepareBars_30 ?_
            refine lv_bipush (v := iI 7) hx hb dX0_prepareBars_33 (by decide +kernel) ?_
            have a20 : ∀ k, A3 (ta + 1) k = A (ta + 1) k := fun k => hj2 (ta + 1) k (isT.b2 (o := fun b => List.contains [16] (b + 1)) hta rfl rfl) (isT.b2 (o := fun b => fin2 [] (b + 1) k) hta rfl rfl)
            have a19 : ∀ k, A11 (ta + 1) k = A (ta + 1) k := fun k => (hj10 (ta + 1) k (isT.b2 (o := fun b => List.contains [16, 72, 103] (b + 1)) hta rfl rfl) (isT.b2 (o := fun b => fin2 [] (b + 1) k) hta rfl rfl)).trans (a20 k)
            refine x_iald (Wf := WK cB cI cJ cZ cQ q) hx hb hK hP (ta + 1) 1 (wkTc hta) rfl (by decide) (by decide) dX0_prepareBars_35 (fun z21 hz21 => ?_)
            have rz21 : (0 : Int) ≤ z21 ∧ z21 ≤ 6 := by rw [hz21]; exact irTc7 hta hI
            have hz21 : z21 = A (ta + 1) (7 : Int).toNat := hz21.trans (a19 _)
            refine lv_icmp_ge (tgt := 135) hx hb dX0_prepareBars_36 (by decide) (fun c22 => ?_) (fun c22 => ?_)
            · have c22 : z21 ≤ z9 := (i_le (rb rz21 (by decide) (by decide)) (rb f14 (by decide) (by decide))).mp c22
              exact RET _ _ _ _ _ ⟨hI, fk.trans (fk.trans (fk.rf) hj2 rfl rfl) hj10 rfl rfl, trivial⟩ hP hS dX0_prepareBars_135
            · have c22 : ¬ z21 ≤ z9 := mt (i_le (rb rz21 (by decide) (by decide)) (rb f14 (by decide) (by decide))).mpr c22
              refine lv_aload_n hx hb dX0_prepareBars_39 rfl (lv_at hl 2 rfl) ?_
              refine va_get (D := (dC, dI)) (ci := 9) (v := .ref (q (ta + 16))) (C := RX9) (T := TX9) (N := 16) hx hb hts hiX9 hown hK hP ta (wkT hta) rfl 10 (by decide) (hts _ (List.mem_cons_of_mem _ (wk_in_1 _ (List.mem_of_getElem? (i := 28) rfl)))) (fun _ h9 => h9) rfl dX0_prepareBars_40 ?_
              refine lv_iload hx hb dX0_prepareBars_43 (lv_at hl 0 rfl) ?_
              have a24 : ∀ k, A3 (ta + 16) k = A (ta + 16) k := fun k => hj2 (ta + 16) k (isT.b2 (o := fun b => List.contains [16] (b + 16)) hta rfl rfl) (isT.b2 (o := fun b => fin2 [] (b + 16) k) hta rfl rfl)
              have a23 : ∀ k, A11 (ta + 16) k = A (ta + 16) k := fun k => (hj10 (ta + 16) k (isT.b2 (o := fun b => List.contains [16, 72, 103] (b + 16)) hta rfl rfl) (isT.b2 (o := fun b => fin2 [] (b + 16) k) hta rfl rfl)).trans (a24 k)
              refine x_iald (Wf := WK cB cI cJ cZ cQ q) hx hb hK hP (ta + 16) 1 (wkTbd hta) rfl (by omega) (by decide) dX0_prepareBars_45 (fun z25 hz25 => ?_)
              have rz25 : (-2147483648 : Int) ≤ z25 ∧ z25 ≤ 2147483647 := by rw [hz25]; exact irTbd hta hI
              have hz25 : z25 = A (ta + 16) (z9).toNat := hz25.trans (a23 _)
              refine lv_istore (lv' := [(5, .int (iI z25)), (4, .int (iI z9)), (0, .ref (q 6)), (1, .ref (q ta)), (2, .int (iI x2)), (3, .int (iI x3))]) hx hb dX0_prepareBars_46 hl (by decide) rfl (fun ls hl => ?_)
              refine lv_iconst (v := iI 0) hx hb dX0_prepareBars_48 (by decide +kernel) ?_
              refine lv_istore (lv' := [(6, .int (iI 0)), (5, .int (iI z25)), (4, .int (iI z9)), (0, .ref (q 6)), (1, .ref (q ta)), (2, .int (iI x2)), (3, .int (iI x3))]) hx hb dX0_prepareBars_49 hl (by decide) rfl (fun ls hl => ?_)
              have L51_29 : ∀ (n32 : Nat) (z26 : Int) (A28 : St) (H : Heap) (locs : List Loc) (ls : Array Slot), (0 ≤ z26 ∧ z26 ≤ 2147483647) → ((89 - z26).toNat = n32) → IK A28 → fk [16, 72, 103] [] A11 A28 → va_P (dC, dI) vwCl (WK cB cI cJ cZ cQ q A28) H → va_S AS s.heap H locs → lv_has ls 8 [(6, .int (iI z26)), (5, .int (iI z25)), (4, .int (iI z9)), (0, .ref (q 6)), (1, .ref (q ta)), (2, .int (iI x2)), (3, .int (iI x3))] → W p l e (headSpec ws_kc_X0_prepareBars ({ frames := 3, cells := 0, slots := 0, locals := 73 } : Room)).room s m [.ref (q 6), .ref (q ta), .int (iI x2), .int (iI x3)].toArray below meth c H locs 0 0 Q (F0 m 51 ls []) := by
                intro n32
                induction n32 using Nat.strongRecOn with
                | ind n32 ih30 =>
                  intro z26 A28 H locs ls f31 hn32 hI hj27 hP hS hl
                  refine lv_iload hx hb dX0_prepareBars_51 (lv_at hl 0 rfl) ?_
                  refine lv_bipush (v := iI 88) hx hb dX0_prepareBars_53 (by decide +kernel) ?_
                  refine lv_icmp_ge (tgt := 129) hx hb dX0_prepareBars_55 (by decide) (fun c33 => ?_) (fun c33 => ?_)
                  · have c33 : 88 ≤ z26 := (i_le ⟨by decide, by decide⟩ (rb f31 (by decide) (by decide))).mp c33
                    refine lv_iinc (v := iI (z9 + 1)) (lv' := [(4, .int (iI (z9 + 1))), (6, .int (iI z26)), (5, .int (iI z25)), (0, .ref (q 6)), (1, .ref (q ta)), (2, .int (iI x2)), (3, .int (iI x3))]) hx hb dX0_prepareBars_129 hl (k := 2) rfl (i_inc (by omega)) (by decide) rfl (fun ls hl => ?_)
                    refine lv_goto (tgt := 27) hx hb dX0_prepareBars_132 (by decide) ?_
                    exact ih13 _ (by omega) (z9 + 1) _ _ _ _ (by omega) rfl hI (fk.trans (fk.trans (fk.rf) hj10 rfl rfl) hj27 rfl rfl) hP hS (lv_sub hl [0, 3, 4, 5, 6] rfl)
                  · have c33 : ¬ 88 ≤ z26 := mt (i_le ⟨by decide, by decide⟩ (rb f31 (by decide) (by decide))).mpr c33
                    refine lv_iload hx hb dX0_prepareBars_58 (lv_at hl 0 rfl) ?_
                    refine lv_bipush (v := iI 11) hx hb dX0_prepareBars_60 (by decide +kernel) ?_
                    refine x_div hx hb dX0_prepareBars_62 (by omega) (by omega) (fun z34 hz34 hz34b => ?_)
                    refine lv_istore (lv' := [(7, .int (iI z34)), (6, .int (iI z26)), (5, .int (iI z25)), (4, .int (iI z9)), (0, .ref (q 6)), (1, .ref (q ta)), (2, .int (iI x2)), (3, .int (iI x3))]) hx hb dX0_prepareBars_63 hl (by decide) rfl (fun ls hl => ?_)
                    refine lv_aload_n hx hb dX0_prepareBars_65 rfl (lv_at hl 5 rfl) ?_
                    refine lv_iload hx hb dX0_prepareBars_66 (lv_at hl 2 rfl) ?_
                    refine lv_iload hx hb dX0_prepareBars_68 (lv_at hl 0 rfl) ?_
                    refine k_calli (As := [.int (iI z25), .int (iI z34)]) (rest := []) ⟨hx, hb, hml, hown, hts⟩ hE (kc_X9_isAt l dC dI cB cI cJ cZ cQ aL aS q _ ta z25 z34 hI hta rz25 (by omega)) (cwV 2 hts (goodVk (wk_in_1 _ (List.mem_of_getElem? (i := 10) rfl)) (wk_in_1 _ (List.mem_of_getElem? (i := 11) rfl)) (wk_in_1 _ (List.mem_of_getElem? (i := 12) rfl)) (wk_in_0 _ (List.mem_of_getElem? (i := 6) rfl)) (wk_in_1 _ (List.mem_of_getElem? (i := 13) rfl))) rfl rfl rfl (by decide +kernel) ⟨Nat.le_of_ble_eq_true rfl, Nat.le_of_ble_eq_true rfl⟩) hK hDD hA0 hP hS ta 9 (wkT hta) rfl rfl hl.1 (Nat.le_of_ble_eq_true rfl) dX0_prepareBars_70 (fun z35 A36 H locs hw37 hP hS => ?_)
                    obtain ⟨rfl, hw37⟩ := hw37
                    have rz35 : 0 ≤ z35 ∧ z35 ≤ 1 := hw37.1
                    have hw37 := hw37.2
                    have J123_39 : ∀ (A60 : St) (H : Heap) (locs : List Loc) (ls : Array Slot), IK A60 → fk [16, 72, 103] [] A28 A60 → va_P (dC, dI) vwCl (WK cB cI cJ cZ cQ q A60) H → va_S AS s.heap H locs → lv_has ls 8 [(7, .int (iI z34)), (6, .int (iI z26)), (5, .int (iI z25)), (4, .int (iI z9)), (0, .ref (q 6)), (1, .ref (q ta)), (2, .int (iI x2)), (3, .int (iI x3))] → W p l e (headSpec ws_kc_X0_prepareBars ({ frames := 3, cells := 0, slots := 0, locals := 73 } : Room)).room s m [.ref (q 6), .ref (q ta), .int (iI x2), .int (iI x3)].toArray below meth c H locs 0 0 Q (F0 m 123 ls []) := by
                      intro A60 H locs ls hI hj59 hP hS hl
                      clear hw37
                      refine lv_iinc (v := iI (z26 + 1)) (lv' := [(6, .int (iI (z26 + 1))), (7, .int (iI z34)), (5, .int (iI z25)), (4, .int (iI z9)), (0, .ref (q 6)), (1, .ref (q ta)), (2, .int (iI x2)), (3, .int (iI x3))]) hx hb dX0_prepareBars_123 hl (k := 1) rfl (i_inc (by omega)) (by decide) rfl (fun ls hl => ?_)
                      refine lv_goto (tgt := 51) hx hb dX0_prepareBars_126 (by decide) ?_
                      exact ih30 _ (by omega) (z26 + 1) _ _ _ _ (by omega) rfl hI (fk.trans (fk.trans (fk.rf) hj27 rfl rfl) hj59 rfl rfl) hP hS (lv_sub hl [0, 2, 3, 4, 5, 6, 7] rfl)
                    refine lv_if_eq (tgt := 123) hx hb dX0_prepareBars_73 (by decide) (fun c38 => ?_) (fun c38 => ?_)
                    · have c38 : z35 = 0 := (i_eq0 (rb rz35 (by decide) (by decide))).mp c38
                      clear hw37
                      exact J123_39 _ _ _ _ hI (fk.rf) hP hS (lv_sub hl [0, 1, 2, 3, 4, 5, 6, 7] rfl)
                    · have c38 : ¬ z35 = 0 := mt (i_eq0 (rb rz35 (by decide) (by decide))).mpr c38
                      have hw37b := hw37 (by omega)
                      clear hw37
                      refine lv_aload_n hx hb dX0_prepareBars_76 rfl (lv_at hl 5 rfl) ?_
                      refine va_get (D := (dC, dI)) (ci := 9) (v := .ref (q (ta + 19))) (C := RX9) (T := TX9) (N := 16) hx hb hts hiX9 hown hK hP ta (wkT hta) rfl 13 (by decide) (hts _ (List.mem_cons_of_mem _ (wk_in_1 _ (List.mem_of_getElem? (i := 29) rfl)))) (fun _ h9 => h9) rfl dX0_prepareBars_77 ?_
                      refine lv_aload_n hx hb dX0_prepareBars_80 rfl (lv_at hl 5 rfl) ?_
                      refine va_get (D := (dC, dI)) (ci := 9) (v := .ref (q (ta + 17))) (C := RX9) (T := TX9) (N := 16) hx hb hts hiX9 hown hK hP ta (wkT hta) rfl 11 (by decide) (hts _ (List.mem_cons_of_mem _ (wk_in_1 _ (List.mem_of_getElem? (i := 30) rfl)))) (fun _ h9 => h9) rfl dX0_prepareBars_81 ?_
                      refine lv_iload hx hb dX0_prepareBars_84 (lv_at hl 3 rfl) ?_
                      have a42 : ∀ k, A3 (ta + 17) k = A (ta + 17) k := fun k => hj2 (ta + 17) k (isT.b2 (o := fun b => List.contains [16] (b + 17)) hta rfl rfl) (isT.b2 (o := fun b => fin2 [] (b + 17) k) hta rfl rfl)
                      have a41 : ∀ k, A11 (ta + 17) k = A (ta + 17) k := fun k => (hj10 (ta + 17) k (isT.b2 (o := fun b => List.contains [16, 72, 103] (b + 17)) hta rfl rfl) (isT.b2 (o := fun b => fin2 [] (b + 17) k) hta rfl rfl)).trans (a42 k)
                      have a40 : ∀ k, A28 (ta + 17) k = A (ta + 17) k := fun k => (hj27 (ta + 17) k (isT.b2 (o := fun b => List.contains [16, 72, 103] (b + 17)) hta rfl rfl) (isT.b2 (o := fun b => fin2 [] (b + 17) k) hta rfl rfl)).trans (a41 k)
                      refine x_iald (Wf := WK cB cI cJ cZ cQ q) hx hb hK hP (ta + 17) 1 (wkTbf hta) rfl (by omega) (by decide) dX0_prepareBars_86 (fun z43 hz43 => ?_)
                      have rz43 : (-2147483648 : Int) ≤ z43 ∧ z43 ≤ 2147483647 := by rw [hz43]; exact irTbf hta hI
                      have hz43 : z43 = A (ta + 17) (z9).toNat := hz43.trans (a40 _)
                      refine lv_aload_n hx hb dX0_prepareBars_87 rfl (lv_at hl 5 rfl) ?_
                      refine va_get (D := (dC, dI)) (ci := 9) (v := .ref (q (ta + 18))) (C := RX9) (T := TX9) (N := 16) hx hb hts hiX9 hown hK hP ta (wkT hta) rfl 12 (by decide) (hts _ (List.mem_cons_of_mem _ (wk_in_1 _ (List.mem_of_getElem? (i := 31) rfl)))) (fun _ h9 => h9) rfl dX0_prepareBars_88 ?_
                      refine lv_iload hx hb dX0_prepareBars_91 (lv_at hl 3 rfl) ?_
                      have a46 : ∀ k, A3 (ta + 18) k = A (ta + 18) k := fun k => hj2 (ta + 18) k (isT.b2 (o := fun b => List.contains [16] (b + 18)) hta rfl rfl) (isT.b2 (o := fun b => fin2 [] (b + 18) k) hta rfl rfl)
                      have a45 : ∀ k, A11 (ta + 18) k = A (ta + 18) k := fun k => (hj10 (ta + 18) k (isT.b2 (o := fun b => List.contains [16, 72, 103] (b + 18)) hta rfl rfl) (isT.b2 (o := fun b => fin2 [] (b + 18) k) hta rfl rfl)).trans (a46 k)
                      have a44 : ∀ k, A28 (ta + 18) k = A (ta + 18) k := fun k => (hj27 (ta + 18) k (isT.b2 (o := fun b => List.contains [16, 72, 103] (b + 18)) hta rfl rfl) (isT.b2 (o := fun b => fin2 [] (b + 18) k) hta rfl rfl)).trans (a45 k)
                      refine x_iald (Wf := WK cB cI cJ cZ cQ q) hx hb hK hP (ta + 18) 1 (wkTbt hta) rfl (by omega) (by decide) dX0_prepareBars_93 (fun z47 hz47 => ?_)
                      have rz47 : (-2147483648 : Int) ≤ z47 ∧ z47 ≤ 2147483647 := by rw [hz47]; exact irTbt hta hI
                      have hz47 : z47 = A (ta + 18) (z9).toNat := hz47.trans (a44 _)
                      refine lv_iload_n hx hb dX0_prepareBars_94 rfl (lv_at hl 6 rfl) ?_
                      refine lv_iload hx hb dX0_prepareBars_95 (lv_at hl 0 rfl) ?_
                      refine lv_iload_n hx hb dX0_prepareBars_97 rfl (lv_at hl 7 rfl) ?_
                      refine lv_iload hx hb dX0_prepareBars_98 (lv_at hl 1 rfl) ?_
                      refine lv_bipush (v := iI 11) hx hb dX0_prepareBars_100 (by decide +kernel) ?_
                      refine x_rem hx hb dX0_prepareBars_102 (by omega) (by omega) (fun z48 hz48 hz48b => ?_)
                      clear hz48
                      refine k_calli (As := [.int (iI z43), .int (iI z47), .int (iI x2), .int (iI z34), .int (iI x3), .int (iI z48)]) (rest := []) ⟨hx, hb, hml, hown, hts⟩ hE (kc_X8_holds l dC dI cB cI cJ cZ cQ aL aS q _ (ta + 19) z43 z47 x2 z34 x3 z48 hI hta.e rz43 rz47 hx2 (by omega) hx3 (by omega)) (cwV 6 hts (goodVk (wk_in_1 _ (List.mem_of_getElem? (i := 32) rfl)) (wk_in_1 _ (List.mem_of_getElem? (i := 33) rfl)) (wk_in_1 _ (List.mem_of_getElem? (i := 34) rfl)) (wk_in_1 _ (List.mem_of_getElem? (i := 35) rfl)) (wk_in_1 _ (List.mem_of_getElem? (i := 36) rfl))) rfl rfl rfl (by decide +kernel) ⟨Nat.le_of_ble_eq_true rfl, Nat.le_of_ble_eq_true rfl⟩) hK hDD hA0 hP hS (ta + 19) 8 (wkE hta.e) rfl rfl hl.1 (Nat.le_of_ble_eq_true rfl) dX0_prepareBars_103 (fun z49 A50 H locs hw51 hP hS => ?_)
                      obtain ⟨hI, hf52, hw51⟩ := hw51
                      refine lv_if_eq (tgt := 123) hx hb dX0_prepareBars_106 (by decide) (fun c53 => ?_) (fun c53 => ?_)
                      · have c53 : z49 = 0 := (i_eq0 (rb hw51 (by decide) (by decide))).mp c53
                        exact J123_39 _ _ _ _ hI (fk.trans (fk.rf) hf52 rfl rfl) hP hS (lv_sub hl [0, 1, 2, 3, 4, 5, 6, 7] rfl)
                      · have c53 : ¬ z49 = 0 := mt (i_eq0 (rb hw51 (by decide) (by decide))).mpr c53
                        refine lv_aload_n hx hb dX0_prepareBars_109 rfl (lv_at hl 4 rfl) ?_
                        refine va_get (D := (dC, dI)) (ci := 0) (v := .ref (q 16)) (C := RX0) (T := TX0) (N := 17) hx hb hts hiX0 hown hK hP 6 (wkAL) rfl 5 (by decide) (hts _ (List.mem_cons_of_mem _ (wk_in_1 _ (List.mem_of_getElem? (i := 27) rfl)))) (fun _ h9 => h9) rfl dX0_prepareBars_110 ?_
                        refine lv_iload hx hb dX0_prepareBars_113 (lv_at hl 1 rfl) ?_
                        refine lv_dup2_11 hx hb dX0_prepareBars_115 rfl rfl ?_
                        have a54 : ∀ k, A50 16 k = A28 16 k := fun k => hf52 16 k rfl rfl
                        refine x_iald (Wf := WK cB cI cJ cZ cQ q) hx hb hK hP 16 1 (wkALb) rfl (by omega) (by decide) dX0_prepareBars_116 (fun z55 hz55 => ?_)
                        have rz55 : (-2147483648 : Int) ≤ z55 ∧ z55 ≤ 2147483647 := by rw [hz55]; exact irALb hI
                        have hz55 : z55 = A28 16 (z26).toNat := hz55.trans (a54 _)
                        refine lv_iconst (v := iI 1) hx hb dX0_prepareBars_117 (by decide +kernel) ?_
                        refine lv_iload hx hb dX0_prepareBars_118 (lv_at hl 2 rfl) ?_
                        refine lv_ishl hx hb dX0_prepareBars_120 ?_
                        refine x_abs (fun z56 hz56 => ?_)
                        refine lv_ior hx hb dX0_prepareBars_121 ?_
                        refine x_abs (fun z57 hz57 => ?_)
                        refine k_iast (Wf := WK cB cI cJ cZ cQ q) hx hb hK hP hDD hS 16 1 (wkALb) rfl (by omega) (by decide) dX0_prepareBars_122 (wsALb) (fun H locs A58 hA58 hP hS => ?_)
                        have hI := isALb hA58 hI (show (-2147483648 : Int) ≤ z57 ∧ z57 ≤ 2147483647 from hz57)
                        exact J123_39 _ _ _ _ hI (fk.da (fk.trans (fk.rf) hf52 rfl rfl) hA58 rfl) hP hS (lv_sub hl [0, 1, 2, 3, 4, 5, 6, 7] rfl)
              exact L51_29 _ 0 _ _ _ _ (by omega) rfl hI (fk.rf) hP hS (lv_sub hl [0, 1, 2, 3, 4, 5, 6] rfl)
        exact L27_12 _ 0 _ _ _ _ (by omega) rfl hI (fk.rf) hP hS (lv_sub hl [0, 1, 2, 3, 4] rfl)
      · have c8 : ¬ 88 ≤ z1 := mt (i_le ⟨by decide, by decide⟩ (rb f6 (by decide) (by decide))).mpr c8
        refine lv_aload_n hx hb dX0_prepareBars_10 rfl (lv_at hl 1 rfl) ?_
        refine va_get (D := (dC, dI)) (ci := 0) (v := .ref (q 16)) (C := RX0) (T := TX0) (N := 17) hx hb hts hiX0 hown hK hP 6 (wkAL) rfl 5 (by decide) (hts _ (List.mem_cons_of_mem _ (wk_in_1 _ (List.mem_of_getElem? (i := 27) rfl)))) (fun _ h9 => h9) rfl dX0_prepareBars_11 ?_
        refine lv_iload hx hb dX0_prepareBars_14 (lv_at hl 0 rfl) ?_
        refine lv_iconst (v := iI 0) hx hb dX0_prepareBars_16 (by decide +kernel) ?_
        refine k_iast (Wf := WK cB cI cJ cZ cQ q) hx hb hK hP hDD hS 16 1 (wkALb) rfl (by omega) (by decide) dX0_prepareBars_17 (wsALb) (fun H locs A61 hA61 hP hS => ?_)
        have hI := isALb hA61 hI (show (-2147483648 : Int) ≤ 0 ∧ 0 ≤ 2147483647 from ⟨by decide, by decide⟩)
        refine lv_iinc (v := iI (z1 + 1)) (lv' := [(4, .int (iI (z1 + 1))), (0, .ref (q 6)), (1, .ref (q ta)), (2, .int (iI x2)), (3, .int (iI x3))]) hx hb dX0_prepareBars_18 hl (k := 0) rfl (i_inc (by omega)) (by decide) rfl (fun ls hl => ?_)
        refine lv_goto (tgt := 3) hx hb dX0_prepareBars_21 (by decide) ?_
        exact ih5 _ (by omega) (z1 + 1) _ _ _ _ (by omega) rfl hI (fk.da (fk.trans (fk.rf) hj2 rfl rfl) hA61 rfl) hP hS (lv_sub hl [0, 1, 2, 3, 4] rfl)
  exact L3_4 _ 0 _ _ _ _ (by omega) rfl hI (fk.rf) hP hS (lv_sub hl [0, 1, 2, 3, 4] rfl)

def ws_kc_X0_clearSets : List Cond := .code yX0_clearSets cX0_clearSets 2 none :: WY
set_option maxHeartbeats 4000000 in
set_option maxRecDepth 100000 in
theorem kc_X0_clearSets (l : Launch) (dC : Nat → ClassId) (dI : Nat → Nat → Nat) (cB cI cJ cZ cQ : ClassId) (aL aS : Nat) (q : Nat → Nat) (A : St) (hI : IK A) : KMv l yX0_clearSets ws_kc_X0_clearSets ({ frames := 0, cells := 0, slots := 0, locals := 0 } : Room) aL aS (dC, dI) (tyA cB cI cJ cZ cQ) (WK cB cI cJ cZ cQ q) A [.ref (q 6)] (fun u => IK u ∧ fk [7, 18, 19] [] A u ∧ (True)) := by
  refine k_metv (cc := cX0_clearSets) (maxL := 2) WK_adr (plainFor_of_name (by decide +kernel)) rfl (Nat.le_of_ble_eq_true rfl) (fun p e s m below meth c Q AS ls hx hb hml hown hts hK hDD hA0 hE RET H locs hP hS hl => ?_)
  have hown : s.vm.findClass RX0 = some m.cls := hown
  have hl : lv_has ls 2 [(0, .ref (q 6))] := hl
  have hiX0 : ∀ w ∈ u_ws RX0 TX0 17, w ∈ ws_kc_X0_clearSets := fun w h => List.mem_cons_of_mem _ (wy_layX0 w h)
  refine lv_iconst (v := iI 0) hx hb dX0_clearSets_0 (by decide +kernel) ?_
  refine lv_istore_n (lv' := [(1, .int (iI 0)), (0, .ref (q 6))]) hx hb dX0_clearSets_1 rfl hl (by decide) rfl (fun ls hl => ?_)
  have L2_4 : ∀ (n7 : Nat) (z1 : Int) (A3 : St) (H : Heap) (locs : List Loc) (ls : Array Slot), (0 ≤ z1 ∧ z1 ≤ 2147483647) → ((1202 - z1).toNat = n7) → IK A3 → fk [7, 18, 19] [] A A3 → va_P (dC, dI) vwCl (WK cB cI cJ cZ cQ q A3) H → va_S AS s.heap H locs → lv_has ls 2 [(1, .int (iI z1)), (0, .ref (q 6))] → W p l e (headSpec ws_kc_X0_clearSets ({ frames := 0, cells := 0, slots := 0, locals := 0 } : Room)).room s m [.ref (q 6)].toArray below meth c H locs 0 0 Q (F0 m 2 ls []) := by
    intro n7
    induction n7 using Nat.strongRecOn with
    | ind n7 ih5 =>
      intro z1 A3 H locs ls f6 hn7 hI hj2 hP hS hl
      refine lv_iload_n hx hb dX0_clearSets_2 rfl (lv_at hl 0 rfl) ?_
      refine lv_sipush (v := iI 1201) hx hb dX0_clearSets_3 (by decide +kernel) ?_
      refine lv_icmp_ge (tgt := 40) hx hb dX0_clearSets_6 (by decide) (fun c8 => ?_) (fun c8 => ?_)
      · have c8 : 1201 ≤ z1 := (i_le ⟨by decide, by decide⟩ (rb f6 (by decide) (by decide))).mp c8
        exact RET _ _ _ _ _ ⟨hI, fk.trans (fk.rf) hj2 rfl rfl, trivial⟩ hP hS dX0_clearSets_40
      · have c8 : ¬ 1201 ≤ z1 := mt (i_le ⟨by decide, by decide⟩ (rb f6 (by decide) (by decide))).mpr c8
        refine lv_iload_n hx hb dX0_clearSets_9 rfl (lv_at hl 0 rfl) ?_
        refine lv_bipush (v := iI 64) hx hb dX0_clearSets_10 (by decide +kernel) ?_
        refine x_mulv (v := 64 * z1) hx hb dX0_clearSets_12 (by omega) ?_
        refine lv_aload_n hx hb dX0_clearSets_13 rfl (lv_at hl 1 rfl) ?_
        have e9 : A3 6 11 = (A 6 11) := (hj2 6 11 rfl rfl)
        have r10 : (-2147483648 : Int) ≤ (A 6 11) ∧ (A 6 11) ≤ 76832 := by rw [← e9]; exact irAL_11 hI
        refine va_get (D := (dC, dI)) (ci := 0) (v := .int (iI (A3 6 11))) (C := RX0) (T := TX0) (N := 17) hx hb hts hiX0 hown hK hP 6 (wkAL) rfl 11 (by decide) (hts _ (List.mem_cons_of_mem _ (wk_in_0 _ (List.mem_of_getElem? (i := 20) rfl)))) (fun _ h9 => h9) rfl dX0_clearSets_14 ?_
        refine tp_i (y := iI (A 6 11)) (congrArg iI e9) ?_
        refine lv_icmp_ge (tgt := 40) hx hb dX0_clearSets_17 (by decide) (fun c11 => ?_) (fun c11 => ?_)
        · have c11 : (A 6 11) ≤ 64 * z1 := (i_le (rb r10 (by decide) (by decide)) (by omega)).mp c11
          exact RET _ _ _ _ _ ⟨hI, fk.trans (fk.rf) hj2 rfl rfl, trivial⟩ hP hS dX0_clearSets_40
        · have c11 : ¬ (A 6 11) ≤ 64 * z1 := mt (i_le (rb r10 (by decide) (by decide)) (by omega)).mpr c11
          refine lv_aload_n hx hb dX0_clearSets_20 rfl (lv_at hl 1 rfl) ?_
          refine va_get (D := (dC, dI)) (ci := 0) (v := .ref (q 7)) (C := RX0) (T := TX0) (N := 17) hx hb hts hiX0 hown hK hP 6 (wkAL) rfl 0 (by decide) (hts _ (List.mem_cons_of_mem _ (wk_in_2 _ (List.mem_of_getElem? (i := 8) rfl)))) (fun _ h9 => h9) rfl dX0_clearSets_21 ?_
          refine lv_iload_n hx hb dX0_clearSets_24 rfl (lv_at hl 0 rfl) ?_
          refine lv_lconst (v := jI 0) hx hb dX0_clearSets_25 (by decide +kernel) ?_
          refine k_last (Wf := WK cB cI cJ cZ cQ q) hx hb hK hP hDD hS 7 2 (wkALs) rfl (by omega) (by decide) dX0_clearSets_26 (wsALs) (fun H locs A12 hA12 hP hS => ?_)
          have hI := isALs hA12 hI (show (-9223372036854775808 : Int) ≤ 0 ∧ 0 ≤ 9223372036854775807 from ⟨by decide, by decide⟩)
          refine lv_aload_n hx hb dX0_clearSets_27 rfl (lv_at hl 1 rfl) ?_
          have e14 : A3 6 8 = (A 6 8) := (hj2 6 8 rfl rfl)
          have e13 : A12 6 8 = (A 6 8) := (rd_ne hA12 (by decide) 8).trans e14
          have r15 : (0 : Int) ≤ (A 6 8) ∧ (A 6 8) ≤ 1 := by rw [← e13]; exact irAL_8 hI
          refine va_get (D := (dC, dI)) (ci := 0) (v := .ref (q (18 + (A12 6 8).toNat))) (C := RX0) (T := TX0) (N := 17) hx hb hts hiX0 hown hK hP 6 (wkAL) rfl 8 (by decide) (hts _ (List.mem_cons_of_mem _ (wk_in_2 _ (List.mem_of_getElem? (i := 9) rfl)))) (fun _ h9 => h9) rfl dX0_clearSets_28 ?_
          refine tp_v (y := .ref (q (18 + ((A 6 8)).toNat))) (by rw [e13]) ?_
          refine lv_iload_n hx hb dX0_clearSets_31 rfl (lv_at hl 0 rfl) ?_
          refine lv_lconst (v := jI 0) hx hb dX0_clearSets_32 (by decide +kernel) ?_
          refine k_last (Wf := WK cB cI cJ cZ cQ q) hx hb hK hP hDD hS (18 + ((A 6 8)).toNat) 2 (wkALf (i := (A 6 8)) (by omega)) rfl (by omega) (by decide) dX0_clearSets_33 (wsALf (i := (A 6 8)) (by omega)) (fun H locs A16 hA16 hP hS => ?_)
          have hI := isALf (i := (A 6 8)) (by omega) hA16 hI (show (-9223372036854775808 : Int) ≤ 0 ∧ 0 ≤ 9223372036854775807 from ⟨by decide, by decide⟩)
          refine lv_iinc (v := iI (z1 + 1)) (lv' := [(1, .int (iI (z1 + 1))), (0, .ref (q 6))]) hx hb dX0_clearSets_34 hl (k := 0) rfl (i_inc (by omega)) (by decide) rfl (fun ls hl => ?_)
          refine lv_goto (tgt := 2) hx hb dX0_clearSets_37 (by decide) ?_
          exact ih5 _ (by omega) (z1 + 1) _ _ _ _ (by omega) rfl hI (fk.da (fk.da (fk.trans (fk.rf) hj2 rfl rfl) hA12 rfl) hA16 (by rcases (show (A 6 8) = 0 ∨ (A 6 8) = 1 by omega) with g | g <;> rw [g] <;> rfl)) hP hS (lv_sub hl [0, 1] rfl)
  exact L2_4 _ 0 _ _ _ _ (by omega) rfl hI (fk.rf) hP hS (lv_sub hl [0, 1] rfl)

def ws_kc_X0_shutNow : List Cond := .code yX0_shutNow cX0_shutNow 4 (some .int) :: WY
set_option maxHeartbeats 4000000 in
set_option maxRecDepth 100000 in
theorem kc_X0_shutNow (l : Launch) (dC : Nat → ClassId) (dI : Nat → Nat → Nat) (cB cI cJ cZ cQ : ClassId) (aL aS : Nat) (q : Nat → Nat) (A : St) (ta : Nat) (hI : IK A) (hta : isT ta) : KMi l yX0_shutNow ws_kc_X0_shutNow ({ frames := 0, cells := 0, slots := 0, locals := 0 } : Room) aL aS (dC, dI) (tyA cB cI cJ cZ cQ) (WK cB cI cJ cZ cQ q) A [.ref (q 6), .ref (q ta)] (fun z u => A = u ∧ (-2147483648 ≤ z ∧ z ≤ 2147483647)) := by
  refine k_meti (cc := cX0_shutNow) (maxL := 4) WK_adr (plainFor_of_name (by decide +kernel)) rfl (Nat.le_of_ble_eq_true rfl) (fun p e s m below meth c Q AS ls hx hb hml hown hts hK hDD hA0 hE RET H locs hP hS hl => ?_)
  have hown : s.vm.findClass RX0 = some m.cls := hown
  have hl : lv_has ls 4 [(0, .ref (q 6)), (1, .ref (q ta))] := hl
  have hiX0 : ∀ w ∈ u_ws RX0 TX0 17, w ∈ ws_kc_X0_shutNow := fun w h => List.mem_cons_of_mem _ (wy_layX0 w h)
  have hiX9 : ∀ w ∈ u_ws RX9 TX9 16, w ∈ ws_kc_X0_shutNow := fun w h => List.mem_cons_of_mem _ (wy_layX9 w h)
  refine lv_aload_n hx hb dX0_shutNow_0 rfl (lv_at hl 0 rfl) ?_
  have r1 : (-2147483648 : Int) ≤ (A 6 12) ∧ (A 6 12) ≤ 2147483647 := irAL_12 hI
  refine va_get (D := (dC, dI)) (ci := 0) (v := .int (iI (A 6 12))) (C := RX0) (T := TX0) (N := 17) hx hb hts hiX0 hown hK hP 6 (wkAL) rfl 12 (by decide) (hts _ (List.mem_cons_of_mem _ (wk_in_0 _ (List.mem_of_getElem? (i := 38) rfl)))) (fun _ h9 => h9) rfl dX0_shutNow_1 ?_
  refine lv_istore_n (lv' := [(2, .int (iI (A 6 12))), (0, .ref (q 6)), (1, .ref (q ta))]) hx hb dX0_shutNow_4 rfl hl (by decide) rfl (fun ls hl => ?_)
  refine lv_iconst (v := iI 0) hx hb dX0_shutNow_5 (by decide +kernel) ?_
  refine lv_istore_n (lv' := [(3, .int (iI 0)), (2, .int (iI (A 6 12))), (0, .ref (q 6)), (1, .ref (q ta))]) hx hb dX0_shutNow_6 rfl hl (by decide) rfl (fun ls hl => ?_)
  have L7_5 : ∀ (n10 : Nat) (z2 z3 : Int) (H : Heap) (locs : List Loc) (ls : Array Slot), (0 ≤ z2 ∧ z2 ≤ 2147483647) → (-2147483648 ≤ z3 ∧ z3 ≤ 2147483647) → ((5 - z2).toNat = n10) → va_P (dC, dI) vwCl (WK cB cI cJ cZ cQ q A) H → va_S AS s.heap H locs → lv_has ls 4 [(3, .int (iI z2)), (2, .int (iI z3)), (0, .ref (q 6)), (1, .ref (q ta))] → W p l e (headSpec ws_kc_X0_shutNow ({ frames := 0, cells := 0, slots := 0, locals := 0 } : Room)).room s m [.ref (q 6), .ref (q ta)].toArray below meth c H locs 0 0 Q (F0 m 7 ls []) := by
    intro n10
    induction n10 using Nat.strongRecOn with
    | ind n10 ih6 =>
      intro z2 z3 H locs ls f7 f8 hn10 hP hS hl
      refine lv_iload_n hx hb dX0_shutNow_7 rfl (lv_at hl 0 rfl) ?_
      refine lv_aload_n hx hb dX0_shutNow_8 rfl (lv_at hl 3 rfl) ?_
      refine va_get (D := (dC, dI)) (ci := 9) (v := .ref (q (ta + 1))) (C := RX9) (T := TX9) (N := 16) hx hb hts hiX9 hown hK hP ta (wkT hta) rfl 0 (by decide) (hts _ (List.mem_cons_of_mem _ (wk_in_0 _ (List.mem_of_getElem? (i := 1) rfl)))) (fun _ h9 => h9) rfl dX0_shutNow_9 ?_
      refine lv_iconst (v := iI 2) hx hb dX0_shutNow_12 (by decide +kernel) ?_
      refine x_iald (Wf := WK cB cI cJ cZ cQ q) hx hb hK hP (ta + 1) 1 (wkTc hta) rfl (by decide) (by decide) dX0_shutNow_13 (fun z11 hz11 => ?_)
      have rz11 : (0 : Int) ≤ z11 ∧ z11 ≤ 4 := by rw [hz11]; exact irTc2 hta hI
      refine lv_icmp_ge (tgt := 73) hx hb dX0_shutNow_14 (by decide) (fun c12 => ?_) (fun c12 => ?_)
      · have c12 : z11 ≤ z2 := (i_le (rb rz11 (by decide) (by decide)) (rb f7 (by decide) (by decide))).mp c12
        refine lv_iload_n hx hb dX0_shutNow_73 rfl (lv_at hl 1 rfl) ?_
        exact RET z3 _ _ _ _ _ ⟨rfl, f8⟩ hP hS dX0_shutNow_74
      · have c12 : ¬ z11 ≤ z2 := mt (i_le (rb rz11 (by decide) (by decide)) (rb f7 (by decide) (by decide))).mpr c12
        refine lv_iload_n hx hb dX0_shutNow_17 rfl (lv_at hl 0 rfl) ?_
        refine lv_iconst (v := iI 4) hx hb dX0_shutNow_18 (by decide +kernel) ?_
        refine lv_icmp_ge (tgt := 73) hx hb dX0_shutNow_19 (by decide) (fun c13 => False.elim (by have c13 : 4 ≤ z2 := (i_le ⟨by decide, by decide⟩ (rb f7 (by decide) (by decide))).mp c13; omega)) (fun _ => ?_)
        refine lv_aload_n hx hb dX0_shutNow_22 rfl (lv_at hl 2 rfl) ?_
        refine va_get (D := (dC, dI)) (ci := 0) (v := .ref (q 13)) (C := RX0) (T := TX0) (N := 17) hx hb hts hiX0 hown hK hP 6 (wkAL) rfl 2 (by decide) (hts _ (List.mem_cons_of_mem _ (wk_in_0 _ (List.mem_of_getElem? (i := 39) rfl)))) (fun _ h9 => h9) rfl dX0_shutNow_23 ?_
        refine lv_iload_n hx hb dX0_shutNow_26 rfl (lv_at hl 0 rfl) ?_
        refine x_iald (Wf := WK cB cI cJ cZ cQ q) hx hb hK hP 13 1 (wkALu) rfl (by omega) (by decide) dX0_shutNow_27 (fun z14 hz14 => ?_)
        have rz14 : (-2147483648 : Int) ≤ z14 ∧ z14 ≤ 2147483647 := by rw [hz14]; exact irALu hI
        have J67_16 : ∀ (z24 : Int) (H : Heap) (locs : List Loc) (ls : Array Slot), (-2147483648 ≤ z24 ∧ z24 ≤ 2147483647) → va_P (dC, dI) vwCl (WK cB cI cJ cZ cQ q A) H → va_S AS s.heap H locs → lv_has ls 4 [(3, .int (iI z2)), (2, .int (iI z24)), (0, .ref (q 6)), (1, .ref (q ta))] → W p l e (headSpec ws_kc_X0_shutNow ({ frames := 0, cells := 0, slots := 0, locals := 0 } : Room)).room s m [.ref (q 6), .ref (q ta)].toArray below meth c H locs 0 0 Q (F0 m 67 ls []) := by
          intro z24 H locs ls f26 hP hS hl
          refine lv_iinc (v := iI (z2 + 1)) (lv' := [(3, .int (iI (z2 + 1))), (2, .int (iI z24)), (0, .ref (q 6)), (1, .ref (q ta))]) hx hb dX0_shutNow_67 hl (k := 0) rfl (i_inc (by omega)) (by decide) rfl (fun ls hl => ?_)
          refine lv_goto (tgt := 7) hx hb dX0_shutNow_70 (by decide) ?_
          exact ih6 _ (by omega) (z2 + 1) z24 _ _ _ (by omega) (by omega) rfl hP hS (lv_sub hl [0, 1, 2, 3] rfl)
        refine lv_if_le (tgt := 67) hx hb dX0_shutNow_28 (by decide) (fun c15 => ?_) (fun c15 => ?_)
        · have c15 : z14 ≤ 0 := (i_le0 rz14).mp c15
          exact J67_16 z3 _ _ _ (by omega) hP hS (lv_sub hl [0, 1, 2, 3] rfl)
        · have c15 : ¬ z14 ≤ 0 := mt (i_le0 rz14).mpr c15
          refine lv_aload_n hx hb dX0_shutNow_31 rfl (lv_at hl 2 rfl) ?_
          refine va_get (D := (dC, dI)) (ci := 0) (v := .ref (q 14)) (C := RX0) (T := TX0) (N := 17) hx hb hts hiX0 hown hK hP 6 (wkAL) rfl 3 (by decide) (hts _ (List.mem_cons_of_mem _ (wk_in_2 _ (List.mem_of_getElem? (i := 14) rfl)))) (fun _ h9 => h9) rfl dX0_shutNow_32 ?_
          refine lv_iload_n hx hb dX0_shutNow_35 rfl (lv_at hl 0 rfl) ?_
          refine x_iald (Wf := WK cB cI cJ cZ cQ q) hx hb hK hP 14 1 (wkALl) rfl (by omega) (by decide) dX0_shutNow_36 (fun z17 hz17 => ?_)
          have rz17 : (-2147483648 : Int) ≤ z17 ∧ z17 ≤ 2147483647 := by rw [hz17]; exact irALl hI
          refine lv_if_lt (tgt := 67) hx hb dX0_shutNow_37 (by decide) (fun c18 => ?_) (fun c18 => ?_)
          · have c18 : z17 < 0 := (i_lt0 rz17).mp c18
            exact J67_16 z3 _ _ _ (by omega) hP hS (lv_sub hl [0, 1, 2, 3] rfl)
          · have c18 : ¬ z17 < 0 := mt (i_lt0 rz17).mpr c18
            refine lv_aload_n hx hb dX0_shutNow_40 rfl (lv_at hl 2 rfl) ?_
            refine va_get (D := (dC, dI)) (ci := 0) (v := .ref (q 14)) (C := RX0) (T := TX0) (N := 17) hx hb hts hiX0 hown hK hP 6 (wkAL) rfl 3 (by decide) (hts _ (List.mem_cons_of_mem _ (wk_in_2 _ (List.mem_of_getElem? (i := 14) rfl)))) (fun _ h9 => h9) rfl dX0_shutNow_41 ?_
            refine lv_iload_n hx hb dX0_shutNow_44 rfl (lv_at hl 0 rfl) ?_
            refine x_iald (Wf := WK cB cI cJ cZ cQ q) hx hb hK hP 14 1 (wkALl) rfl (by omega) (by decide) dX0_shutNow_45 (fun z19 hz19 => ?_)
            have rz19 : (-2147483648 : Int) ≤ z19 ∧ z19 ≤ 2147483647 := by rw [hz19]; exact irALl hI
            have ez19 : z19 = z17 := hz19.trans hz17.symm
            refine tp_i (y := iI z17) (congrArg iI ez19) ?_
            refine lv_bipush (v := iI 6) hx hb dX0_shutNow_46 (by decide +kernel) ?_
            refine lv_icmp_gt (tgt := 67) hx hb dX0_shutNow_48 (by decide) (fun c20 => ?_) (fun c20 => ?_)
            · have c20 : 6 < z17 := (i_lt ⟨by decide, by decide⟩ rz17).mp c20
              exact J67_16 z3 _ _ _ (by omega) hP hS (lv_sub hl [0, 1, 2, 3] rfl)
            · have c20 : ¬ 6 < z17 := mt (i_lt ⟨by decide, by decide⟩ rz17).mpr c20
              refine lv_iload_n hx hb dX0_shutNow_51 rfl (lv_at hl 1 rfl) ?_
              refine lv_aload_n hx hb dX0_shutNow_52 rfl (lv_at hl 2 rfl) ?_
              refine va_get (D := (dC, dI)) (ci := 0) (v := .ref (q 8)) (C := RX0) (T := TX0) (N := 17) hx hb hts hiX0 hown hK hP 6 (wkAL) rfl 1 (by decide) (hts _ (List.mem_cons_of_mem _ (wk_in_0 _ (List.mem_of_getElem? (i := 41) rfl)))) (fun _ h9 => h9) rfl dX0_shutNow_53 ?_
              refine lv_iload_n hx hb dX0_shutNow_56 rfl (lv_at hl 0 rfl) ?_
              refine k_aald (Wf := WK cB cI cJ cZ cQ q) hx hb hK hP 8 4 (wkALq) rfl (by omega) (by decide) (b := q (9 + (z2).toNat)) (by rcases (show z2 = 0 ∨ z2 = 1 ∨ z2 = 2 ∨ z2 = 3 by omega) with h | h | h | h <;> rw [h] <;> rfl) dX0_shutNow_57 ?_
              refine lv_aload_n hx hb dX0_shutNow_58 rfl (lv_at hl 2 rfl) ?_
              refine va_get (D := (dC, dI)) (ci := 0) (v := .ref (q 14)) (C := RX0) (T := TX0) (N := 17) hx hb hts hiX0 hown hK hP 6 (wkAL) rfl 3 (by decide) (hts _ (List.mem_cons_of_mem _ (wk_in_2 _ (List.mem_of_getElem? (i := 14) rfl)))) (fun _ h9 => h9) rfl dX0_shutNow_59 ?_
              refine lv_iload_n hx hb dX0_shutNow_62 rfl (lv_at hl 0 rfl) ?_
              refine x_iald (Wf := WK cB cI cJ cZ cQ q) hx hb hK hP 14 1 (wkALl) rfl (by omega) (by decide) dX0_shutNow_63 (fun z21 hz21 => ?_)
              have rz21 : (-2147483648 : Int) ≤ z21 ∧ z21 ≤ 2147483647 := by rw [hz21]; exact irALl hI
              have ez21 : z21 = z17 := hz21.trans hz17.symm
              refine tp_i (y := iI z17) (congrArg iI ez21) ?_
              refine x_iald (Wf := WK cB cI cJ cZ cQ q) hx hb hK hP (9 + (z2).toNat) 1 (wkALr (i := z2) (by omega)) rfl (by omega) (by decide) dX0_shutNow_64 (fun z22 hz22 => ?_)
              have rz22 : (-2147483648 : Int) ≤ z22 ∧ z22 ≤ 2147483647 := by rw [hz22]; exact irALr (i := z2) (by omega) hI
              refine lv_ior hx hb dX0_shutNow_65 ?_
              refine x_abs (fun z23 hz23 => ?_)
              refine lv_istore_n (lv' := [(2, .int (iI z23)), (3, .int (iI z2)), (0, .ref (q 6)), (1, .ref (q ta))]) hx hb dX0_shutNow_66 rfl hl (by decide) rfl (fun ls hl => ?_)
              exact J67_16 z23 _ _ _ (by omega) hP hS (lv_sub hl [1, 0, 2, 3] rfl)
  exact L7_5 _ 0 (A 6 12) _ _ _ (by omega) (by omega) rfl hP hS (lv_sub hl [0, 1, 2, 3] rfl)

def ws_kc_X0_hadAt : List Cond := .code yX0_hadAt cX0_hadAt 7 (some .int) :: WY
set_option maxHeartbeats 4000000 in
set_option maxRecDepth 100000 in
theorem kc_X0_hadAt (l : Launch) (dC : Nat → ClassId) (dI : Nat → Nat → Nat) (cB cI cJ cZ cQ : ClassId) (aL aS : Nat) (q : Nat → Nat) (A : St) (ta : Nat) (x2 x3 : Int) (hI : IK A) (hta : isT ta) (hx2 : (-2147483648 : Int) ≤ x2 ∧ x2 ≤ 2147483647) (hx3 : (-2147483648 : Int) ≤ x3 ∧ x3 ≤ 2147483647) : KMi l yX0_hadAt ws_kc_X0_hadAt ({ frames := 1, cells := 0, slots := 0, locals := 22 } : Room) aL aS (dC, dI) (tyA cB cI cJ cZ cQ) (WK cB cI cJ cZ cQ q) A [.ref (q 6), .ref (q ta), .int (iI x2), .int (iI x3)] (fun z u => A = u ∧ (-2147483648 ≤ z ∧ z ≤ 2147483647)) := by
  refine k_meti (cc := cX0_hadAt) (maxL := 7) WK_adr (plainFor_of_name (by decide +kernel)) rfl (Nat.le_of_ble_eq_true rfl) (fun p e s m below meth c Q AS ls hx hb hml hown hts hK hDD hA0 hE RET H locs hP hS hl => ?_)
  have hown : s.vm.findClass RX0 = some m.cls := hown
  have hl : lv_has ls 7 [(0, .ref (q 6)), (1, .ref (q ta)), (2, .int (iI x2)), (3, .int (iI x3))] := hl
  have hiX0 : ∀ w ∈ u_ws RX0 TX0 17, w ∈ ws_kc_X0_hadAt := fun w h => List.mem_cons_of_mem _ (wy_layX0 w h)
  refine lv_iconst (v := iI 0) hx hb dX0_hadAt_0 (by decide +kernel) ?_
  refine lv_istore (lv' := [(4, .int (iI 0)), (0, .ref (q 6)), (1, .ref (q ta)), (2, .int (iI x2)), (3, .int (iI x3))]) hx hb dX0_hadAt_1 hl (by decide) rfl (fun ls hl => ?_)
  refine lv_iconst (v := iI 0) hx hb dX0_hadAt_3 (by decide +kernel) ?_
  refine lv_istore (lv' := [(5, .int (iI 0)), (4, .int (iI 0)), (0, .ref (q 6)), (1, .ref (q ta)), (2, .int (iI x2)), (3, .int (iI x3))]) hx hb dX0_hadAt_4 hl (by decide) rfl (fun ls hl => ?_)
  have L6_4 : ∀ (n9 : Nat) (z1 z2 : Int) (H : Heap) (locs : List Loc) (ls : Array Slot), (0 ≤ z1 ∧ z1 ≤ 2147483647) → (-2147483648 ≤ z2 ∧ z2 ≤ 2147483647) → ((3 - z1).toNat = n9) → va_P (dC, dI) vwCl (WK cB cI cJ cZ cQ q A) H → va_S AS s.heap H locs → lv_has ls 7 [(5, .int (iI z1)), (4, .int (iI z2)), (0, .ref (q 6)), (1, .ref (q ta)), (2, .int (iI x2)), (3, .int (iI x3))] → W p l e (headSpec ws_kc_X0_hadAt ({ frames := 1, cells := 0, slots := 0, locals := 22 } : Room)).room s m [.ref (q 6), .ref (q ta), .int (iI x2), .int (iI x3)].toArray below meth c H locs 0 0 Q (F0 m 6 ls []) := by
    intro n9
    induction n9 using Nat.strongRecOn with
    | ind n9 ih5 =>
      intro z1 z2 H locs ls f6 f7 hn9 hP hS hl
      refine lv_iload hx hb dX0_hadAt_6 (lv_at hl 0 rfl) ?_
      refine lv_aload_n hx hb dX0_hadAt_8 rfl (lv_at hl 2 rfl) ?_
      have r10 : (0 : Int) ≤ (A 6 9) ∧ (A 6 9) ≤ 2 := irAL_9 hI
      refine va_get (D := (dC, dI)) (ci := 0) (v := .int (iI (A 6 9))) (C := RX0) (T := TX0) (N := 17) hx hb hts hiX0 hown hK hP 6 (wkAL) rfl 9 (by decide) (hts _ (List.mem_cons_of_mem _ (wk_in_0 _ (List.mem_of_getElem? (i := 29) rfl)))) (fun _ h9 => h9) rfl dX0_hadAt_9 ?_
      refine lv_icmp_ge (tgt := 86) hx hb dX0_hadAt_12 (by decide) (fun c11 => ?_) (fun c11 => ?_)
      · have c11 : (A 6 9) ≤ z1 := (i_le (rb r10 (by decide) (by decide)) (rb f6 (by decide) (by decide))).mp c11
        refine lv_iload hx hb dX0_hadAt_86 (lv_at hl 1 rfl) ?_
        exact RET z2 _ _ _ _ _ ⟨rfl, f7⟩ hP hS dX0_hadAt_88
      · have c11 : ¬ (A 6 9) ≤ z1 := mt (i_le (rb r10 (by decide) (by decide)) (rb f6 (by decide) (by decide))).mpr c11
        refine lv_iload hx hb dX0_hadAt_15 (lv_at hl 0 rfl) ?_
        refine lv_iconst (v := iI 2) hx hb dX0_hadAt_17 (by decide +kernel) ?_
        refine lv_icmp_ge (tgt := 86) hx hb dX0_hadAt_18 (by decide) (fun c12 => False.elim (by have c12 : 2 ≤ z1 := (i_le ⟨by decide, by decide⟩ (rb f6 (by decide) (by decide))).mp c12; omega)) (fun _ => ?_)
        refine lv_aload_n hx hb dX0_hadAt_21 rfl (lv_at hl 2 rfl) ?_
        refine va_get (D := (dC, dI)) (ci := 0) (v := .ref (q 17)) (C := RX0) (T := TX0) (N := 17) hx hb hts hiX0 hown hK hP 6 (wkAL) rfl 6 (by decide) (hts _ (List.mem_cons_of_mem _ (wk_in_0 _ (List.mem_of_getElem? (i := 31) rfl)))) (fun _ h9 => h9) rfl dX0_hadAt_22 ?_
        refine lv_iload hx hb dX0_hadAt_25 (lv_at hl 0 rfl) ?_
        refine x_iald (Wf := WK cB cI cJ cZ cQ q) hx hb hK hP 17 1 (wkALw) rfl (by omega) (by decide) dX0_hadAt_27 (fun z13 hz13 => ?_)
        have rz13 : (-2147483648 : Int) ≤ z13 ∧ z13 ≤ 2147483647 := by rw [hz13]; exact irALw hI
        refine lv_bipush (v := iI 20) hx hb dX0_hadAt_28 (by decide +kernel) ?_
        refine x_subv (v := z13 - 20) hx hb dX0_hadAt_30 (by omega) ?_
        refine x_abs (fun z14 hz14 => ?_)
        refine lv_istore (lv' := [(6, .int (iI z14)), (5, .int (iI z1)), (4, .int (iI z2)), (0, .ref (q 6)), (1, .ref (q ta)), (2, .int (iI x2)), (3, .int (iI x3))]) hx hb dX0_hadAt_31 hl (by decide) rfl (fun ls hl => ?_)
        refine lv_aload_n hx hb dX0_hadAt_33 rfl (lv_at hl 3 rfl) ?_
        refine va_get (D := (dC, dI)) (ci := 0) (v := .ref (q 17)) (C := RX0) (T := TX0) (N := 17) hx hb hts hiX0 hown hK hP 6 (wkAL) rfl 6 (by decide) (hts _ (List.mem_cons_of_mem _ (wk_in_0 _ (List.mem_of_getElem? (i := 31) rfl)))) (fun _ h9 => h9) rfl dX0_hadAt_34 ?_
        refine lv_iload hx hb dX0_hadAt_37 (lv_at hl 1 rfl) ?_
        refine x_iald (Wf := WK cB cI cJ cZ cQ q) hx hb hK hP 17 1 (wkALw) rfl (by omega) (by decide) dX0_hadAt_39 (fun z15 hz15 => ?_)
        have rz15 : (-2147483648 : Int) ≤ z15 ∧ z15 ≤ 2147483647 := by rw [hz15]; exact irALw hI
        have ez15 : z15 = z13 := hz15.trans hz13.symm
        refine tp_i (y := iI z13) (congrArg iI ez15) ?_
        refine lv_bipush (v := iI 10) hx hb dX0_hadAt_40 (by decide +kernel) ?_
        refine lv_iload_n hx hb dX0_hadAt_42 rfl (lv_at hl 5 rfl) ?_
        refine x_addv (v := x2 + 10) hx hb dX0_hadAt_43 (by omega) ?_
        refine x_abs (fun z16 hz16 => ?_)
        have J80_19 : ∀ (z31 : Int) (H : Heap) (locs : List Loc) (ls : Array Slot), (-2147483648 ≤ z31 ∧ z31 ≤ 2147483647) → va_P (dC, dI) vwCl (WK cB cI cJ cZ cQ q A) H → va_S AS s.heap H locs → lv_has ls 7 [(6, .int (iI z14)), (5, .int (iI z1)), (4, .int (iI z31)), (0, .ref (q 6)), (1, .ref (q ta)), (2, .int (iI x2)), (3, .int (iI x3))] → W p l e (headSpec ws_kc_X0_hadAt ({ frames := 1, cells := 0, slots := 0, locals := 22 } : Room)).room s m [.ref (q 6), .ref (q ta), .int (iI x2), .int (iI x3)].toArray below meth c H locs 0 0 Q (F0 m 80 ls []) := by
          intro z31 H locs ls f33 hP hS hl
          refine lv_iinc (v := iI (z1 + 1)) (lv' := [(5, .int (iI (z1 + 1))), (6, .int (iI z14)), (4, .int (iI z31)), (0, .ref (q 6)), (1, .ref (q ta)), (2, .int (iI x2)), (3, .int (iI x3))]) hx hb dX0_hadAt_80 hl (k := 1) rfl (i_inc (by omega)) (by decide) rfl (fun ls hl => ?_)
          refine lv_goto (tgt := 6) hx hb dX0_hadAt_83 (by decide) ?_
          exact ih5 _ (by omega) (z1 + 1) z31 _ _ _ (by omega) (by omega) rfl hP hS (lv_sub hl [0, 2, 3, 4, 5, 6] rfl)
        have J71_18 : ∀ (H : Heap) (locs : List Loc) (ls : Array Slot), va_P (dC, dI) vwCl (WK cB cI cJ cZ cQ q A) H → va_S AS s.heap H locs → lv_has ls 7 [(6, .int (iI z14)), (5, .int (iI z1)), (4, .int (iI z2)), (0, .ref (q 6)), (1, .ref (q ta)), (2, .int (iI x2)), (3, .int (iI x3))] → W p l e (headSpec ws_kc_X0_hadAt ({ frames := 1, cells := 0, slots := 0, locals := 22 } : Room)).room s m [.ref (q 6), .ref (q ta), .int (iI x2), .int (iI x3)].toArray below meth c H locs 0 0 Q (F0 m 71 ls []) := by
          intro H locs ls hP hS hl
          refine lv_iload hx hb dX0_hadAt_71 (lv_at hl 2 rfl) ?_
          refine lv_iconst (v := iI 1) hx hb dX0_hadAt_73 (by decide +kernel) ?_
          refine lv_iload hx hb dX0_hadAt_74 (lv_at hl 1 rfl) ?_
          refine lv_ishl hx hb dX0_hadAt_76 ?_
          refine x_abs (fun z29 hz29 => ?_)
          refine lv_ior hx hb dX0_hadAt_77 ?_
          refine x_abs (fun z30 hz30 => ?_)
          refine lv_istore (lv' := [(4, .int (iI z30)), (6, .int (iI z14)), (5, .int (iI z1)), (0, .ref (q 6)), (1, .ref (q ta)), (2, .int (iI x2)), (3, .int (iI x3))]) hx hb dX0_hadAt_78 hl (by decide) rfl (fun ls hl => ?_)
          exact J80_19 z30 _ _ _ (by omega) hP hS (lv_sub hl [1, 2, 0, 3, 4, 5, 6] rfl)
        refine lv_icmp_eq (tgt := 71) hx hb dX0_hadAt_44 (by decide) (fun c17 => ?_) (fun c17 => ?_)
        · have c17 : z13 = z16 := (i_eq rz13 hz16).mp c17
          exact J71_18 _ _ _ hP hS (lv_sub hl [0, 1, 2, 3, 4, 5, 6] rfl)
        · have c17 : ¬ z13 = z16 := mt (i_eq rz13 hz16).mpr c17
          refine lv_iload hx hb dX0_hadAt_47 (lv_at hl 0 rfl) ?_
          refine lv_if_lt (tgt := 80) hx hb dX0_hadAt_49 (by decide) (fun c20 => ?_) (fun c20 => ?_)
          · have c20 : z14 < 0 := (i_lt0 hz14).mp c20
            exact J80_19 z2 _ _ _ (by omega) hP hS (lv_sub hl [0, 1, 2, 3, 4, 5, 6] rfl)
          · have c20 : ¬ z14 < 0 := mt (i_lt0 hz14).mpr c20
            refine lv_aload_n hx hb dX0_hadAt_52 rfl (lv_at hl 4 rfl) ?_
            refine lv_iload hx hb dX0_hadAt_53 (lv_at hl 0 rfl) ?_
            refine lv_iload_n hx hb dX0_hadAt_55 rfl (lv_at hl 5 rfl) ?_
            refine k_calli (As := [.int (iI z14), .int (iI x2)]) (rest := []) ⟨hx, hb, hml, hown, hts⟩ hE (kc_X9_isAt l dC dI cB cI cJ cZ cQ aL aS q _ ta z14 x2 hI hta hz14 hx2) (cwV 2 hts (goodVk (wk_in_1 _ (List.mem_of_getElem? (i := 10) rfl)) (wk_in_1 _ (List.mem_of_getElem? (i := 11) rfl)) (wk_in_1 _ (List.mem_of_getElem? (i := 12) rfl)) (wk_in_0 _ (List.mem_of_getElem? (i := 6) rfl)) (wk_in_1 _ (List.mem_of_getElem? (i := 13) rfl))) rfl rfl rfl (by decide +kernel) ⟨Nat.le_of_ble_eq_true rfl, Nat.le_of_ble_eq_true rfl⟩) hK hDD hA0 hP hS ta 9 (wkT hta) rfl rfl hl.1 (Nat.le_of_ble_eq_true rfl) dX0_hadAt_56 (fun z21 A22 H locs hw23 hP hS => ?_)
            obtain ⟨rfl, hw23⟩ := hw23
            have rz21 : 0 ≤ z21 ∧ z21 ≤ 1 := hw23.1
            have hw23 := hw23.2
            refine lv_if_eq (tgt := 80) hx hb dX0_hadAt_59 (by decide) (fun c24 => ?_) (fun c24 => ?_)
            · have c24 : z21 = 0 := (i_eq0 (rb rz21 (by decide) (by decide))).mp c24
              clear hw23
              exact J80_19 z2 _ _ _ (by omega) hP hS (lv_sub hl [0, 1, 2, 3, 4, 5, 6] rfl)
            · have c24 : ¬ z21 = 0 := mt (i_eq0 (rb rz21 (by decide) (by decide))).mpr c24
              have hw23b := hw23 (by omega)
              clear hw23
              refine lv_iload_n hx hb dX0_hadAt_62 rfl (lv_at hl 6 rfl) ?_
              refine lv_iload hx hb dX0_hadAt_63 (lv_at hl 0 rfl) ?_
              refine lv_ishr hx hb dX0_hadAt_65 ?_
              refine x_abs (fun z25 hz25 => ?_)
              refine lv_iconst (v := iI 1) hx hb dX0_hadAt_66 (by decide +kernel) ?_
              refine lv_iand hx hb dX0_hadAt_67 ?_
              refine x_and (b := 1) (by omega) (fun z26 hz26 => ?_)
              refine lv_if_ne (tgt := 80) hx hb dX0_hadAt_68 (by decide) (fun c27 => ?_) (fun c27 => ?_)
              · have c27 : ¬ z26 = 0 := mt (i_eq0 (by omega)).mpr c27
                exact J80_19 z2 _ _ _ (by omega) hP hS (lv_sub hl [0, 1, 2, 3, 4, 5, 6] rfl)
              · have c27 : z26 = 0 := (i_eq0 (by omega)).mp c27
                exact J71_18 _ _ _ hP hS (lv_sub hl [0, 1, 2, 3, 4, 5, 6] rfl)
  exact L6_4 _ 0 0 _ _ _ (by omega) (by omega) rfl hP hS (lv_sub hl [0, 1, 2, 3, 4, 5] rfl)

def ws_kc_X0_mark : List Cond := .code yX0_mark cX0_mark 5 none :: WY
set_option maxHeartbeats 4000000 in
set_option maxRecDepth 100000 in
theorem kc_X0_mark (l : Launch) (dC : Nat → ClassId) (dI : Nat → Nat → Nat) (cB cI cJ cZ cQ : ClassId) (aL aS : Nat) (q : Nat → Nat) (A : St) (x1 : Int) (hI : IK A) (hx1 : (-2147483648 : Int) ≤ x1 ∧ x1 ≤ 2147483647) : KMv l yX0_mark ws_kc_X0_mark ({ frames := 0, cells := 0, slots := 0, locals := 0 } : Room) aL aS (dC, dI) (tyA cB cI cJ cZ cQ) (WK cB cI cJ cZ cQ q) A [.ref (q 6), .int (iI x1)] (fun u => IK u ∧ fk [7, 18, 19] [] A u ∧ (True)) := by
  refine k_metv (cc := cX0_mark) (maxL := 5) WK_adr (plainFor_of_name (by decide +kernel)) rfl (Nat.le_of_ble_eq_true rfl) (fun p e s m below meth c Q AS ls hx hb hml hown hts hK hDD hA0 hE RET H locs hP hS hl => ?_)
  have hown : s.vm.findClass RX0 = some m.cls := hown
  have hl : lv_has ls 5 [(0, .ref (q 6)), (1, .int (iI x1))] := hl
  have hiX0 : ∀ w ∈ u_ws RX0 TX0 17, w ∈ ws_kc_X0_mark := fun w h => List.mem_cons_of_mem _ (wy_layX0 w h)
  refine lv_iload_n hx hb dX0_mark_0 rfl (lv_at hl 1 rfl) ?_
  refine lv_if_lt (tgt := 12) hx hb dX0_mark_1 (by decide) (fun c1 => ?_) (fun c1 => ?_)
  · have c1 : x1 < 0 := (i_lt0 hx1).mp c1
    exact RET _ _ _ _ _ ⟨hI, fk.rf, trivial⟩ hP hS dX0_mark_12
  · have c1 : ¬ x1 < 0 := mt (i_lt0 hx1).mpr c1
    refine lv_iload_n hx hb dX0_mark_4 rfl (lv_at hl 1 rfl) ?_
    refine lv_aload_n hx hb dX0_mark_5 rfl (lv_at hl 0 rfl) ?_
    have r2 : (-2147483648 : Int) ≤ (A 6 11) ∧ (A 6 11) ≤ 76832 := irAL_11 hI
    refine va_get (D := (dC, dI)) (ci := 0) (v := .int (iI (A 6 11))) (C := RX0) (T := TX0) (N := 17) hx hb hts hiX0 hown hK hP 6 (wkAL) rfl 11 (by decide) (hts _ (List.mem_cons_of_mem _ (wk_in_0 _ (List.mem_of_getElem? (i := 20) rfl)))) (fun _ h9 => h9) rfl dX0_mark_6 ?_
    refine lv_icmp_lt (tgt := 13) hx hb dX0_mark_9 (by decide) (fun c3 => ?_) (fun c3 => ?_)
    · have c3 : x1 < (A 6 11) := (i_lt hx1 (rb r2 (by decide) (by decide))).mp c3
      refine lv_iload_n hx hb dX0_mark_13 rfl (lv_at hl 1 rfl) ?_
      refine lv_bipush (v := iI 64) hx hb dX0_mark_14 (by decide +kernel) ?_
      refine x_div hx hb dX0_mark_16 (by omega) (by omega) (fun z4 hz4 hz4b => ?_)
      refine lv_istore_n (lv' := [(2, .int (iI z4)), (0, .ref (q 6)), (1, .int (iI x1))]) hx hb dX0_mark_17 rfl hl (by decide) rfl (fun ls hl => ?_)
      refine lv_lconst (v := jI 1) hx hb dX0_mark_18 (by decide +kernel) ?_
      refine lv_iload_n hx hb dX0_mark_19 rfl (lv_at hl 2 rfl) ?_
      refine lv_bipush (v := iI 64) hx hb dX0_mark_20 (by decide +kernel) ?_
      refine x_rem hx hb dX0_mark_22 (by omega) (by omega) (fun z5 hz5 hz5b => ?_)
      clear hz5
      refine lv_lshl hx hb dX0_mark_23 rfl ?_
      refine x_absl (fun z6 hz6 => ?_)
      refine lv_lstore_n (lv' := [(3, .long (jI z6)), (2, .int (iI z4)), (0, .ref (q 6)), (1, .int (iI x1))]) hx hb dX0_mark_24 rfl hl (by decide) rfl (fun ls hl => ?_)
      refine lv_aload_n hx hb dX0_mark_25 rfl (lv_at hl 2 rfl) ?_
      refine va_get (D := (dC, dI)) (ci := 0) (v := .ref (q 7)) (C := RX0) (T := TX0) (N := 17) hx hb hts hiX0 hown hK hP 6 (wkAL) rfl 0 (by decide) (hts _ (List.mem_cons_of_mem _ (wk_in_2 _ (List.mem_of_getElem? (i := 8) rfl)))) (fun _ h9 => h9) rfl dX0_mark_26 ?_
      refine lv_iload_n hx hb dX0_mark_29 rfl (lv_at hl 1 rfl) ?_
      refine x_lald (Wf := WK cB cI cJ cZ cQ q) hx hb hK hP 7 2 (wkALs) rfl (by omega) (by decide) dX0_mark_30 (fun z7 hz7 => ?_)
      have rz7 : (-9223372036854775808 : Int) ≤ z7 ∧ z7 ≤ 9223372036854775807 := by rw [hz7]; exact irALs hI
      refine lv_lload_n hx hb dX0_mark_31 rfl (lv_at hl 0 rfl) ?_
      refine lv_land hx hb dX0_mark_32 ?_
      refine x_absl (fun z8 hz8 => ?_)
      refine lv_lconst (v := jI 0) hx hb dX0_mark_33 (by decide +kernel) ?_
      refine x_lcmp hx hb dX0_mark_34 (by omega) (by omega) (fun z9 hz9 hz9b hz9c => ?_)
      clear hz9b hz9c
      refine lv_if_ne (tgt := 58) hx hb dX0_mark_35 (by decide) (fun c10 => ?_) (fun c10 => ?_)
      · have c10 : ¬ z9 = 0 := mt (i_eq0 (by omega)).mpr c10
        exact RET _ _ _ _ _ ⟨hI, fk.rf, trivial⟩ hP hS dX0_mark_58
      · have c10 : z9 = 0 := (i_eq0 (by omega)).mp c10
        refine lv_aload_n hx hb dX0_mark_38 rfl (lv_at hl 2 rfl) ?_
        refine va_get (D := (dC, dI)) (ci := 0) (v := .ref (q 7)) (C := RX0) (T := TX0) (N := 17) hx hb hts hiX0 hown hK hP 6 (wkAL) rfl 0 (by decide) (hts _ (List.mem_cons_of_mem _ (wk_in_2 _ (List.mem_of_getElem? (i := 8) rfl)))) (fun _ h9 => h9) rfl dX0_mark_39 ?_
        refine lv_iload_n hx hb dX0_mark_42 rfl (lv_at hl 1 rfl) ?_
        refine lv_dup2_11 hx hb dX0_mark_43 rfl rfl ?_
        refine x_lald (Wf := WK cB cI cJ cZ cQ q) hx hb hK hP 7 2 (wkALs) rfl (by omega) (by decide) dX0_mark_44 (fun z11 hz11 => ?_)
        have rz11 : (-9223372036854775808 : Int) ≤ z11 ∧ z11 ≤ 9223372036854775807 := by rw [hz11]; exact irALs hI
        have ez11 : z11 = z7 := hz11.trans hz7.symm
        refine tp_l (y := jI z7) (congrArg jI ez11) ?_
        refine lv_lload_n hx hb dX0_mark_45 rfl (lv_at hl 0 rfl) ?_
        refine lv_lor hx hb dX0_mark_46 ?_
        refine x_absl (fun z12 hz12 => ?_)
        refine k_last (Wf := WK cB cI cJ cZ cQ q) hx hb hK hP hDD hS 7 2 (wkALs) rfl (by omega) (by decide) dX0_mark_47 (wsALs) (fun H locs A13 hA13 hP hS => ?_)
        have hI := isALs hA13 hI (show (-9223372036854775808 : Int) ≤ z12 ∧ z12 ≤ 9223372036854775807 from (by omega))
        refine lv_aload_n hx hb dX0_mark_48 rfl (lv_at hl 2 rfl) ?_
        have e14 : A13 6 8 = (A 6 8) := (rd_ne hA13 (by decide) 8)
        have r15 : (0 : Int) ≤ (A 6 8) ∧ (A 6 8) ≤ 1 := by rw [← e14]; exact irAL_8 hI
        refine va_get (D := (dC, dI)) (ci := 0) (v := .ref (q (18 + (A13 6 8).toNat))) (C := RX0) (T := TX0) (N := 17) hx hb hts hiX0 hown hK hP 6 (wkAL) rfl 8 (by decide) (hts _ (List.mem_cons_of_mem _ (wk_in_2 _ (List.mem_of_getElem? (i := 9) rfl)))) (fun _ h9 => h9) rfl dX0_mark_49 ?_
        refine tp_v (y := .ref (q (18 + ((A 6 8)).toNat))) (by rw [e14]) ?_
        refine lv_iload_n hx hb dX0_mark_52 rfl (lv_at hl 1 rfl) ?_
        refine lv_dup2_11 hx hb dX0_mark_53 rfl rfl ?_
        have a16 : ∀ k, A13 (18 + ((A 6 8)).toNat) k = A (18 + ((A 6 8)).toNat) k := fun k => rd_ne hA13 (by omega) k
        refine x_lald (Wf := WK cB cI cJ cZ cQ q) hx hb hK hP (18 + ((A 6 8)).toNat) 2 (wkALf (i := (A 6 8)) (by omega)) rfl (by omega) (by decide) dX0_mark_54 (fun z17 hz17 => ?_)
        have rz17 : (-9223372036854775808 : Int) ≤ z17 ∧ z17 ≤ 9223372036854775807 := by rw [hz17]; exact irALf (i := (A 6 8)) (by omega) hI
        have hz17 : z17 = A (18 + ((A 6 8)).toNat) (z4).toNat := hz17.trans (a16 _)
        refine lv_lload_n hx hb dX0_mark_55 rfl (lv_at hl 0 rfl) ?_
        refine lv_lor hx hb dX0_mark_56 ?_
        refine x_absl (fun z18 hz18 => ?_)
        refine k_last (Wf := WK cB cI cJ cZ cQ q) hx hb hK hP hDD hS (18 + ((A 6 8)).toNat) 2 (wkALf (i := (A 6 8)) (by omega)) rfl (by omega) (by decide) dX0_mark_57 (wsALf (i := (A 6 8)) (by omega)) (fun H locs A19 hA19 hP hS => ?_)
        have hI := isALf (i := (A 6 8)) (by omega) hA19 hI (show (-9223372036854775808 : Int) ≤ z18 ∧ z18 ≤ 9223372036854775807 from (by omega))
        exact RET _ _ _ _ _ ⟨hI, fk.da (fk.da (fk.rf) hA13 rfl) hA19 (by rcases (show (A 6 8) = 0 ∨ (A 6 8) = 1 by omega) with g | g <;> rw [g] <;> rfl), trivial⟩ hP hS dX0_mark_58
    · have c3 : ¬ x1 < (A 6 11) := mt (i_lt hx1 (rb r2 (by decide) (by decide))).mpr c3
      exact RET _ _ _ _ _ ⟨hI, fk.rf, trivial⟩ hP hS dX0_mark_12

def ws_kc_X0_markStart : List Cond := .code yX0_markStart cX0_markStart 6 none :: WY
set_option maxHeartbeats 4000000 in
set_option maxRecDepth 100000 in
theorem kc_X0_markStart (l : Launch) (dC : Nat → ClassId) (dI : Nat → Nat → Nat) (cB cI cJ cZ cQ : ClassId) (aL aS : Nat) (q : Nat → Nat) (A : St) (ta : Nat) (x2 x3 : Int) (hI : IK A) (hta : isT ta) (hx2 : (-2147483648 : Int) ≤ x2 ∧ x2 ≤ 2147483647) (hx3 : (-2147483648 : Int) ≤ x3 ∧ x3 ≤ 2147483647) : KMv l yX0_markStart ws_kc_X0_markStart ({ frames := 2, cells := 0, slots := 0, locals := 48 } : Room) aL aS (dC, dI) (tyA cB cI cJ cZ cQ) (WK cB cI cJ cZ cQ q) A [.ref (q 6), .ref (q ta), .int (iI x2), .int (iI x3)] (fun u => IK u ∧ fk [7, 14, 18, 19] [] A u ∧ (True)) := by
  refine k_metv (cc := cX0_markStart) (maxL := 6) WK_adr (plainFor_of_name (by decide +kernel)) rfl (Nat.le_of_ble_eq_true rfl) (fun p e s m below meth c Q AS ls hx hb hml hown hts hK hDD hA0 hE RET H locs hP hS hl => ?_)
  have hown : s.vm.findClass RX0 = some m.cls := hown
  have hl : lv_has ls 6 [(0, .ref (q 6)), (1, .ref (q ta)), (2, .int (iI x2)), (3, .int (iI x3))] := hl
  have hiX9 : ∀ w ∈ u_ws RX9 TX9 16, w ∈ ws_kc_X0_markStart := fun w h => List.mem_cons_of_mem _ (wy_layX9 w h)
  have hiX0 : ∀ w ∈ u_ws RX0 TX0 17, w ∈ ws_kc_X0_markStart := fun w h => List.mem_cons_of_mem _ (wy_layX0 w h)
  have hiX6 : ∀ w ∈ u_ws RX6 TX6 4, w ∈ ws_kc_X0_markStart := fun w h => List.mem_cons_of_mem _ (wy_layX6 w h)
  refine lv_iload_n hx hb dX0_markStart_0 rfl (lv_at hl 2 rfl) ?_
  refine lv_istore (lv' := [(4, .int (iI x2)), (0, .ref (q 6)), (1, .ref (q ta)), (2, .int (iI x2)), (3, .int (iI x3))]) hx hb dX0_markStart_1 hl (by decide) rfl (fun ls hl => ?_)
  refine lv_iconst (v := iI 0) hx hb dX0_markStart_3 (by decide +kernel) ?_
  refine lv_istore (lv' := [(5, .int (iI 0)), (4, .int (iI x2)), (0, .ref (q 6)), (1, .ref (q ta)), (2, .int (iI x2)), (3, .int (iI x3))]) hx hb dX0_markStart_4 hl (by decide) rfl (fun ls hl => ?_)
  have L6_5 : ∀ (n11 : Nat) (z1 z2 : Int) (A4 : St) (H : Heap) (locs : List Loc) (ls : Array Slot), (0 ≤ z1 ∧ z1 ≤ 2147483647) → (-2147483648 ≤ z2 ∧ z2 ≤ 2147483647) → ((5 - z1).toNat = n11) → IK A4 → fk [14] [] A A4 → va_P (dC, dI) vwCl (WK cB cI cJ cZ cQ q A4) H → va_S AS s.heap H locs → lv_has ls 6 [(5, .int (iI z1)), (4, .int (iI z2)), (0, .ref (q 6)), (1, .ref (q ta)), (2, .int (iI x2)), (3, .int (iI x3))] → W p l e (headSpec ws_kc_X0_markStart ({ frames := 2, cells := 0, slots := 0, locals := 48 } : Room)).room s m [.ref (q 6), .ref (q ta), .int (iI x2), .int (iI x3)].toArray below meth c H locs 0 0 Q (F0 m 6 ls []) := by
    intro n11
    induction n11 using Nat.strongRecOn with
    | ind n11 ih6 =>
      intro z1 z2 A4 H locs ls f7 f8 hn11 hI hj3 hP hS hl
      refine lv_iload hx hb dX0_markStart_6 (lv_at hl 0 rfl) ?_
      refine lv_aload_n hx hb dX0_markStart_8 rfl (lv_at hl 3 rfl) ?_
      refine va_get (D := (dC, dI)) (ci := 9) (v := .ref (q (ta + 1))) (C := RX9) (T := TX9) (N := 16) hx hb hts hiX9 hown hK hP ta (wkT hta) rfl 0 (by decide) (hts _ (List.mem_cons_of_mem _ (wk_in_0 _ (List.mem_of_getElem? (i := 1) rfl)))) (fun _ h9 => h9) rfl dX0_markStart_9 ?_
      refine lv_iconst (v := iI 2) hx hb dX0_markStart_12 (by decide +kernel) ?_
      have a12 : ∀ k, A4 (ta + 1) k = A (ta + 1) k := fun k => hj3 (ta + 1) k (isT.b2 (o := fun b => List.contains [14] (b + 1)) hta rfl rfl) (isT.b2 (o := fun b => fin2 [] (b + 1) k) hta rfl rfl)
      refine x_iald (Wf := WK cB cI cJ cZ cQ q) hx hb hK hP (ta + 1) 1 (wkTc hta) rfl (by decide) (by decide) dX0_markStart_13 (fun z13 hz13 => ?_)
      have rz13 : (0 : Int) ≤ z13 ∧ z13 ≤ 4 := by rw [hz13]; exact irTc2 hta hI
      have hz13 : z13 = A (ta + 1) (2 : Int).toNat := hz13.trans (a12 _)
      refine lv_icmp_ge (tgt := 77) hx hb dX0_markStart_14 (by decide) (fun c14 => ?_) (fun c14 => ?_)
      · have c14 : z13 ≤ z1 := (i_le (rb rz13 (by decide) (by decide)) (rb f7 (by decide) (by decide))).mp c14
        refine lv_aload_n hx hb dX0_markStart_77 rfl (lv_at hl 2 rfl) ?_
        refine lv_iload hx hb dX0_markStart_78 (lv_at hl 1 rfl) ?_
        refine lv_aload_n hx hb dX0_markStart_80 rfl (lv_at hl 2 rfl) ?_
        refine lv_aload_n hx hb dX0_markStart_81 rfl (lv_at hl 3 rfl) ?_
        refine lv_iload_n hx hb dX0_markStart_82 rfl (lv_at hl 4 rfl) ?_
        refine lv_aload_n hx hb dX0_markStart_83 rfl (lv_at hl 2 rfl) ?_
        refine lv_aload_n hx hb dX0_markStart_84 rfl (lv_at hl 3 rfl) ?_
        refine k_calli (As := [.ref (q ta)]) (rest := [.int (iI x2), .ref (q ta), .ref (q 6), .int (iI z2), .ref (q 6)]) ⟨hx, hb, hml, hown, hts⟩ hE (kc_X0_shutNow l dC dI cB cI cJ cZ cQ aL aS q _ ta hI hta) (cwV 1 hts (goodVk (wk_in_2 _ (List.mem_of_getElem? (i := 15) rfl)) (wk_in_2 _ (List.mem_of_getElem? (i := 16) rfl)) (wk_in_2 _ (List.mem_of_getElem? (i := 17) rfl)) (wk_in_0 _ (List.mem_of_getElem? (i := 14) rfl)) (wk_in_2 _ (List.mem_of_getElem? (i := 18) rfl))) rfl rfl rfl (by decide +kernel) ⟨Nat.le_of_ble_eq_true rfl, Nat.le_of_ble_eq_true rfl⟩) hK hDD hA0 hP hS 6 0 (wkAL) rfl rfl hl.1 (Nat.le_of_ble_eq_true rfl) dX0_markStart_85 (fun z15 A16 H locs hw17 hP hS => ?_)
        obtain ⟨rfl, hw17⟩ := hw17
        refine k_calli (As := [.ref (q ta), .int (iI x2), .int (iI z15)]) (rest := [.int (iI z2), .ref (q 6)]) ⟨hx, hb, hml, hown, hts⟩ hE (kc_X0_hadAt l dC dI cB cI cJ cZ cQ aL aS q _ ta x2 z15 hI hta hx2 hw17) (cwV 3 hts (goodVk (wk_in_2 _ (List.mem_of_getElem? (i := 19) rfl)) (wk_in_2 _ (List.mem_of_getElem? (i := 20) rfl)) (wk_in_2 _ (List.mem_of_getElem? (i := 21) rfl)) (wk_in_0 _ (List.mem_of_getElem? (i := 14) rfl)) (wk_in_2 _ (List.mem_of_getElem? (i := 22) rfl))) rfl rfl rfl (by decide +kernel) ⟨Nat.le_of_ble_eq_true rfl, Nat.le_of_ble_eq_true rfl⟩) hK hDD hA0 hP hS 6 0 (wkAL) rfl rfl hl.1 (Nat.le_of_ble_eq_true rfl) dX0_markStart_88 (fun z18 A19 H locs hw20 hP hS => ?_)
        obtain ⟨rfl, hw20⟩ := hw20
        refine lv_aload_n hx hb dX0_markStart_91 rfl (lv_at hl 2 rfl) ?_
        have e21 : A4 6 10 = (A 6 10) := (hj3 6 10 rfl rfl)
        have r22 : (-2147483648 : Int) ≤ (A 6 10) ∧ (A 6 10) ≤ 2147483647 := by rw [← e21]; exact irAL_10 hI
        refine va_get (D := (dC, dI)) (ci := 0) (v := .int (iI (A4 6 10))) (C := RX0) (T := TX0) (N := 17) hx hb hts hiX0 hown hK hP 6 (wkAL) rfl 10 (by decide) (hts _ (List.mem_cons_of_mem _ (wk_in_0 _ (List.mem_of_getElem? (i := 43) rfl)))) (fun _ h9 => h9) rfl dX0_markStart_92 ?_
        refine tp_i (y := iI (A 6 10)) (congrArg iI e21) ?_
        refine lv_imul hx hb dX0_markStart_95 ?_
        refine x_abs (fun z23 hz23 => ?_)
        refine x_addv (v := z2 + z23) hx hb dX0_markStart_96 (by omega) ?_
        refine x_abs (fun z24 hz24 => ?_)
        refine k_callv (As := [.int (iI z24)]) (rest := []) ⟨hx, hb, hml, hown, hts⟩ hE (kc_X0_mark l dC dI cB cI cJ cZ cQ aL aS q _ z24 hI hz24) (cwV 1 hts (goodVk (wk_in_2 _ (List.mem_of_getElem? (i := 23) rfl)) (wk_in_2 _ (List.mem_of_getElem? (i := 24) rfl)) (wk_in_2 _ (List.mem_of_getElem? (i := 25) rfl)) (wk_in_0 _ (List.mem_of_getElem? (i := 14) rfl)) (wk_in_2 _ (List.mem_of_getElem? (i := 26) rfl))) rfl rfl rfl (by decide +kernel) ⟨Nat.le_of_ble_eq_true rfl, Nat.le_of_ble_eq_true rfl⟩) hK hDD hA0 hP hS 6 0 (wkAL) rfl rfl hl.1 (Nat.le_of_ble_eq_true rfl) dX0_markStart_97 (fun A25 H locs hw26 hP hS => ?_)
        obtain ⟨hI, hf27, hw26⟩ := hw26
        clear hw26
        exact RET _ _ _ _ _ ⟨hI, fk.trans (fk.trans (fk.rf) hj3 rfl rfl) hf27 rfl rfl, trivial⟩ hP hS dX0_markStart_100
      · have c14 : ¬ z13 ≤ z1 := mt (i_le (rb rz13 (by decide) (by decide)) (rb f7 (by decide) (by decide))).mpr c14
        refine lv_aload_n hx hb dX0_markStart_17 rfl (lv_at hl 2 rfl) ?_
        refine va_get (D := (dC, dI)) (ci := 0) (v := .ref (q 14)) (C := RX0) (T := TX0) (N := 17) hx hb hts hiX0 hown hK hP 6 (wkAL) rfl 3 (by decide) (hts _ (List.mem_cons_of_mem _ (wk_in_2 _ (List.mem_of_getElem? (i := 14) rfl)))) (fun _ h9 => h9) rfl dX0_markStart_18 ?_
        refine lv_iload hx hb dX0_markStart_21 (lv_at hl 0 rfl) ?_
        refine lv_iconst (v := iI 0) hx hb dX0_markStart_23 (by decide +kernel) ?_
        refine k_iast (Wf := WK cB cI cJ cZ cQ q) hx hb hK hP hDD hS 14 1 (wkALl) rfl (by omega) (by decide) dX0_markStart_24 (wsALl) (fun H locs A28 hA28 hP hS => ?_)
        have hI := isALl hA28 hI (show (-2147483648 : Int) ≤ 0 ∧ 0 ≤ 2147483647 from ⟨by decide, by decide⟩)
        refine lv_iload_n hx hb dX0_markStart_25 rfl (lv_at hl 5 rfl) ?_
        refine lv_iload hx hb dX0_markStart_26 (lv_at hl 0 rfl) ?_
        refine lv_ishr hx hb dX0_markStart_28 ?_
        refine x_abs (fun z29 hz29 => ?_)
        refine lv_iconst (v := iI 1) hx hb dX0_markStart_29 (by decide +kernel) ?_
        refine lv_iand hx hb dX0_markStart_30 ?_
        refine x_and (b := 1) (by omega) (fun z30 hz30 => ?_)
        have J71_32 : ∀ (z44 : Int) (A46 : St) (H : Heap) (locs : List Loc) (ls : Array Slot), (-2147483648 ≤ z44 ∧ z44 ≤ 2147483647) → IK A46 → fk [14] [] A28 A46 → va_P (dC, dI) vwCl (WK cB cI cJ cZ cQ q A46) H → va_S AS s.heap H locs → lv_has ls 6 [(5, .int (iI z1)), (4, .int (iI z44)), (0, .ref (q 6)), (1, .ref (q ta)), (2, .int (iI x2)), (3, .int (iI x3))] → W p l e (headSpec ws_kc_X0_markStart ({ frames := 2, cells := 0, slots := 0, locals := 48 } : Room)).room s m [.ref (q 6), .ref (q ta), .int (iI x2), .int (iI x3)].toArray below meth c H locs 0 0 Q (F0 m 71 ls []) := by
          intro z44 A46 H locs ls f47 hI hj45 hP hS hl
          refine lv_iinc (v := iI (z1 + 1)) (lv' := [(5, .int (iI (z1 + 1))), (4, .int (iI z44)), (0, .ref (q 6)), (1, .ref (q ta)), (2, .int (iI x2)), (3, .int (iI x3))]) hx hb dX0_markStart_71 hl (k := 0) rfl (i_inc (by omega)) (by decide) rfl (fun ls hl => ?_)
          refine lv_goto (tgt := 6) hx hb dX0_markStart_74 (by decide) ?_
          exact ih6 _ (by omega) (z1 + 1) z44 _ _ _ _ (by omega) (by omega) rfl hI (fk.trans (fk.da (fk.trans (fk.rf) hj3 rfl rfl) hA28 rfl) hj45 rfl rfl) hP hS (lv_sub hl [0, 1, 2, 3, 4, 5] rfl)
        refine lv_if_eq (tgt := 71) hx hb dX0_markStart_31 (by decide) (fun c31 => ?_) (fun c31 => ?_)
        · have c31 : z30 = 0 := (i_eq0 (by omega)).mp c31
          exact J71_32 z2 _ _ _ _ (by omega) hI (fk.rf) hP hS (lv_sub hl [0, 1, 2, 3, 4, 5] rfl)
        · have c31 : ¬ z30 = 0 := mt (i_eq0 (by omega)).mpr c31
          refine lv_aload_n hx hb dX0_markStart_34 rfl (lv_at hl 2 rfl) ?_
          refine va_get (D := (dC, dI)) (ci := 0) (v := .ref (q 14)) (C := RX0) (T := TX0) (N := 17) hx hb hts hiX0 hown hK hP 6 (wkAL) rfl 3 (by decide) (hts _ (List.mem_cons_of_mem _ (wk_in_2 _ (List.mem_of_getElem? (i := 14) rfl)))) (fun _ h9 => h9) rfl dX0_markStart_35 ?_
          refine lv_iload hx hb dX0_markStart_38 (lv_at hl 0 rfl) ?_
          refine lv_aload_n hx hb dX0_markStart_40 rfl (lv_at hl 3 rfl) ?_
          refine va_get (D := (dC, dI)) (ci := 9) (v := .ref (q (ta + 22))) (C := RX9) (T := TX9) (N := 16) hx hb hts hiX9 hown hK hP ta (wkT hta) rfl 14 (by decide) (hts _ (List.mem_cons_of_mem _ (wk_in_0 _ (List.mem_of_getElem? (i := 18) rfl)))) (fun _ h9 => h9) rfl dX0_markStart_41 ?_
          refine va_get (D := (dC, dI)) (ci := 6) (v := .ref (q ((ta + 22) + 3))) (C := RX6) (T := TX6) (N := 4) hx hb hts hiX6 hown hK hP (ta + 22) (wkS hta.s) rfl 2 (by decide) (hts _ (List.mem_cons_of_mem _ (wk_in_0 _ (List.mem_of_getElem? (i := 40) rfl)))) (fun _ h9 => h9) rfl dX0_markStart_44 ?_
          refine lv_iload hx hb dX0_markStart_47 (lv_at hl 0 rfl) ?_
          have a34 : ∀ k, A4 ((ta + 22) + 3) k = A ((ta + 22) + 3) k := fun k => hj3 ((ta + 22) + 3) k (isS.b2 (o := fun b => List.contains [14] (b + 3)) hta.s rfl rfl rfl rfl) (isS.b2 (o := fun b => fin2 [] (b + 3) k) hta.s rfl rfl rfl rfl)
          have a33 : ∀ k, A28 ((ta + 22) + 3) k = A ((ta + 22) + 3) k := fun k => (rd_ne hA28 (by rcases hta.s with h | h | h | h <;> omega) k).trans (a34 k)
          refine x_iald (Wf := WK cB cI cJ cZ cQ q) hx hb hK hP ((ta + 22) + 3) 1 (wkSz hta.s) rfl (by omega) (by decide) dX0_markStart_49 (fun z35 hz35 => ?_)
          have rz35 : (0 : Int) ≤ z35 ∧ z35 ≤ 6 := by rw [hz35]; exact irSz hta.s hI
          have hz35 : z35 = A ((ta + 22) + 3) (z1).toNat := hz35.trans (a33 _)
          refine k_iast (Wf := WK cB cI cJ cZ cQ q) hx hb hK hP hDD hS 14 1 (wkALl) rfl (by omega) (by decide) dX0_markStart_50 (wsALl) (fun H locs A36 hA36 hP hS => ?_)
          have hI := isALl hA36 hI (show (-2147483648 : Int) ≤ z35 ∧ z35 ≤ 2147483647 from (rb rz35 (by decide) (by decide)))
          refine lv_iload hx hb dX0_markStart_51 (lv_at hl 1 rfl) ?_
          refine lv_aload_n hx hb dX0_markStart_53 rfl (lv_at hl 2 rfl) ?_
          refine va_get (D := (dC, dI)) (ci := 0) (v := .ref (q 14)) (C := RX0) (T := TX0) (N := 17) hx hb hts hiX0 hown hK hP 6 (wkAL) rfl 3 (by decide) (hts _ (List.mem_cons_of_mem _ (wk_in_2 _ (List.mem_of_getElem? (i := 14) rfl)))) (fun _ h9 => h9) rfl dX0_markStart_54 ?_
          refine lv_iload hx hb dX0_markStart_57 (lv_at hl 0 rfl) ?_
          refine x_iald (Wf := WK cB cI cJ cZ cQ q) hx hb hK hP 14 1 (wkALl) rfl (by omega) (by decide) dX0_markStart_59 (fun z37 hz37 => ?_)
          have rz37 : (-2147483648 : Int) ≤ z37 ∧ z37 ≤ 2147483647 := by rw [hz37]; exact irALl hI
          have ez37 : z37 = z35 := hz37.trans (rd_is hA36)
          refine tp_i (y := iI z35) (congrArg iI ez37) ?_
          refine lv_aload_n hx hb dX0_markStart_60 rfl (lv_at hl 2 rfl) ?_
          refine va_get (D := (dC, dI)) (ci := 0) (v := .ref (q 13)) (C := RX0) (T := TX0) (N := 17) hx hb hts hiX0 hown hK hP 6 (wkAL) rfl 2 (by decide) (hts _ (List.mem_cons_of_mem _ (wk_in_0 _ (List.mem_of_getElem? (i := 39) rfl)))) (fun _ h9 => h9) rfl dX0_markStart_61 ?_
          refine lv_iload hx hb dX0_markStart_64 (lv_at hl 0 rfl) ?_
          have a40 : ∀ k, A4 13 k = A 13 k := fun k => hj3 13 k rfl rfl
          have a39 : ∀ k, A28 13 k = A 13 k := fun k => (rd_ne hA28 (by decide) k).trans (a40 k)
          have a38 : ∀ k, A36 13 k = A 13 k := fun k => (rd_ne hA36 (by decide) k).trans (a39 k)
          refine x_iald (Wf := WK cB cI cJ cZ cQ q) hx hb hK hP 13 1 (wkALu) rfl (by omega) (by decide) dX0_markStart_66 (fun z41 hz41 => ?_)
          have rz41 : (-2147483648 : Int) ≤ z41 ∧ z41 ≤ 2147483647 := by rw [hz41]; exact irALu hI
          have hz41 : z41 = A 13 (z1).toNat := hz41.trans (a38 _)
          refine lv_imul hx hb dX0_markStart_67 ?_
          refine x_abs (fun z42 hz42 => ?_)
          refine x_addv (v := z2 + z42) hx hb dX0_markStart_68 (by omega) ?_
          refine x_abs (fun z43 hz43 => ?_)
          refine lv_istore (lv' := [(4, .int (iI z43)), (5, .int (iI z1)), (0, .ref (q 6)), (1, .ref (q ta)), (2, .int (iI x2)), (3, .int (iI x3))]) hx hb dX0_markStart_69 hl (by decide) rfl (fun ls hl => ?_)
          exact J71_32 z43 _ _ _ _ (by omega) hI (fk.da (fk.rf) hA36 rfl) hP hS (lv_sub hl [1, 0, 2, 3, 4, 5] rfl)
  exact L6_5 _ 0 x2 _ _ _ _ (by omega) (by omega) rfl hI (fk.rf) hP hS (lv_sub hl [0, 1, 2, 3, 4, 5] rfl)

def ws_kc_X0_advance : List Cond := .code yX0_advance cX0_advance 4 (some .boolean) :: WY
set_option maxHeartbeats 4000000 in
set_option maxRecDepth 100000 in
theorem kc_X0_advance (l : Launch) (dC : Nat → ClassId) (dI : Nat → Nat → Nat) (cB cI cJ cZ cQ : ClassId) (aL aS : Nat) (q : Nat → Nat) (A : St) (hI : IK A) : KMi l yX0_advance ws_kc_X0_advance ({ frames := 0, cells := 0, slots := 0, locals := 0 } : Room) aL aS (dC, dI) (tyA cB cI cJ cZ cQ) (WK cB cI cJ cZ cQ q) A [.ref (q 6)] (fun z u => IK u ∧ fk [18, 19] [(6, 7), (6, 8)] A u ∧ (0 ≤ z ∧ z ≤ 1)) := by
  refine k_metz (cc := cX0_advance) (maxL := 4) WK_adr (plainFor_of_name (by decide +kernel)) rfl (Nat.le_of_ble_eq_true rfl) (fun z u h => h.2.2) (fun p e s m below meth c Q AS ls hx hb hml hown hts hK hDD hA0 hE RET H locs hP hS hl => ?_)
  have hown : s.vm.findClass RX0 = some m.cls := hown
  have hl : lv_has ls 4 [(0, .ref (q 6))] := hl
  have hiX0 : ∀ w ∈ u_ws RX0 TX0 17, w ∈ ws_kc_X0_advance := fun w h => List.mem_cons_of_mem _ (wy_layX0 w h)
  refine lv_aload_n hx hb dX0_advance_0 rfl (lv_at hl 0 rfl) ?_
  have r1 : (0 : Int) ≤ (A 6 7) ∧ (A 6 7) ≤ 1 := irAL_7 hI
  refine va_get (D := (dC, dI)) (ci := 0) (v := .ref (q (18 + (A 6 7).toNat))) (C := RX0) (T := TX0) (N := 17) hx hb hts hiX0 hown hK hP 6 (wkAL) rfl 7 (by decide) (hts _ (List.mem_cons_of_mem _ (wk_in_2 _ (List.mem_of_getElem? (i := 31) rfl)))) (fun _ h9 => h9) rfl dX0_advance_1 ?_
  refine lv_astore_n (lv' := [(1, .ref (q (18 + ((A 6 7)).toNat))), (0, .ref (q 6))]) hx hb dX0_advance_4 rfl hl (by decide) rfl (fun ls hl => ?_)
  refine lv_aload_n hx hb dX0_advance_5 rfl (lv_at hl 1 rfl) ?_
  refine lv_aload_n hx hb dX0_advance_6 rfl (lv_at hl 1 rfl) ?_
  have r2 : (0 : Int) ≤ (A 6 8) ∧ (A 6 8) ≤ 1 := irAL_8 hI
  refine va_get (D := (dC, dI)) (ci := 0) (v := .ref (q (18 + (A 6 8).toNat))) (C := RX0) (T := TX0) (N := 17) hx hb hts hiX0 hown hK hP 6 (wkAL) rfl 8 (by decide) (hts _ (List.mem_cons_of_mem _ (wk_in_2 _ (List.mem_of_getElem? (i := 9) rfl)))) (fun _ h9 => h9) rfl dX0_advance_7 ?_
  refine k_put (Wf := WK cB cI cJ cZ cQ q) (D := (dC, dI)) (ci := 0) (v := .ref (q (18 + ((A 6 8)).toNat))) (ty := .array .long) (C := RX0) (T := TX0) (N := 17) hx hb hts hiX0 tyX0 tyX0_ok nmX0 hown hK hP hDD hS 6 (wkAL) rfl 7 (by decide) (hts _ (List.mem_cons_of_mem _ (wk_in_2 _ (List.mem_of_getElem? (i := 31) rfl)))) (fun _ h9 => h9) rfl (by decide +kernel) rfl rfl (Nat.le_of_ble_eq_true rfl) dX0_advance_10 (wfAL_7 (v := (A 6 8))) (fun H locs A3 hA3 hP hS => ?_)
  have hI := isAL_7 hA3 hI (show (0 : Int) ≤ (A 6 8) ∧ (A 6 8) ≤ 1 from r2)
  refine lv_aload_n hx hb dX0_advance_13 rfl (lv_at hl 1 rfl) ?_
  refine lv_aload_n hx hb dX0_advance_14 rfl (lv_at hl 0 rfl) ?_
  refine k_put (Wf := WK cB cI cJ cZ cQ q) (D := (dC, dI)) (ci := 0) (v := .ref (q (18 + ((A 6 7)).toNat))) (ty := .array .long) (C := RX0) (T := TX0) (N := 17) hx hb hts hiX0 tyX0 tyX0_ok nmX0 hown hK hP hDD hS 6 (wkAL) rfl 8 (by decide) (hts _ (List.mem_cons_of_mem _ (wk_in_2 _ (List.mem_of_getElem? (i := 9) rfl)))) (fun _ h9 => h9) rfl (by decide +kernel) rfl rfl (Nat.le_of_ble_eq_true rfl) dX0_advance_15 (wfAL_8 (v := (A 6 7))) (fun H locs A4 hA4 hP hS => ?_)
  have hI := isAL_8 hA4 hI (show (0 : Int) ≤ (A 6 7) ∧ (A 6 7) ≤ 1 from r1)
  refine lv_iconst (v := iI 0) hx hb dX0_advance_18 (by decide +kernel) ?_
  refine lv_istore_n (lv' := [(2, .int (iI 0)), (1, .ref (q (18 + ((A 6 7)).toNat))), (0, .ref (q 6))]) hx hb dX0_advance_19 rfl hl (by decide) rfl (fun ls hl => ?_)
  refine lv_iconst (v := iI 0) hx hb dX0_advance_20 (by decide +kernel) ?_
  refine lv_istore_n (lv' := [(3, .int (iI 0)), (2, .int (iI 0)), (1, .ref (q (18 + ((A 6 7)).toNat))), (0, .ref (q 6))]) hx hb dX0_advance_21 rfl hl (by decide) rfl (fun ls hl => ?_)
  have L22_9 : ∀ (n13 : Nat) (z5 z6 : Int) (A8 : St) (H : Heap) (locs : List Loc) (ls : Array Slot), (0 ≤ z5 ∧ z5 ≤ 2147483647) → (0 ≤ z6 ∧ z6 ≤ 1) → ((1202 - z5).toNat = n13) → IK A8 → fk [18, 19] [] A4 A8 → va_P (dC, dI) vwCl (WK cB cI cJ cZ cQ q A8) H → va_S AS s.heap H locs → lv_has ls 4 [(3, .int (iI z5)), (2, .int (iI z6)), (1, .ref (q (18 + ((A 6 7)).toNat))), (0, .ref (q 6))] → W p l e (headSpec ws_kc_X0_advance ({ frames := 0, cells := 0, slots := 0, locals := 0 } : Room)).room s m [.ref (q 6)].toArray below meth c H locs 0 0 Q (F0 m 22 ls []) := by
    intro n13
    induction n13 using Nat.strongRecOn with
    | ind n13 ih10 =>
      intro z5 z6 A8 H locs ls f11 f12 hn13 hI hj7 hP hS hl
      refine lv_iload_n hx hb dX0_advance_22 rfl (lv_at hl 0 rfl) ?_
      refine lv_sipush (v := iI 1201) hx hb dX0_advance_23 (by decide +kernel) ?_
      refine lv_icmp_ge (tgt := 66) hx hb dX0_advance_26 (by decide) (fun c14 => ?_) (fun c14 => ?_)
      · have c14 : 1201 ≤ z5 := (i_le ⟨by decide, by decide⟩ (rb f11 (by decide) (by decide))).mp c14
        refine lv_iload_n hx hb dX0_advance_66 rfl (lv_at hl 1 rfl) ?_
        exact RET z6 _ _ _ _ _ ⟨hI, fk.trans (fk.df (fk.df (fk.rf) hA3 rfl) hA4 rfl) hj7 rfl rfl, f12⟩ hP hS dX0_advance_67
      · have c14 : ¬ 1201 ≤ z5 := mt (i_le ⟨by decide, by decide⟩ (rb f11 (by decide) (by decide))).mpr c14
        refine lv_iload_n hx hb dX0_advance_29 rfl (lv_at hl 0 rfl) ?_
        refine lv_bipush (v := iI 64) hx hb dX0_advance_30 (by decide +kernel) ?_
        refine x_mulv (v := 64 * z5) hx hb dX0_advance_32 (by omega) ?_
        refine lv_aload_n hx hb dX0_advance_33 rfl (lv_at hl 3 rfl) ?_
        have e17 : A3 6 11 = (A 6 11) := (rd_at hA3 (by decide))
        have e16 : A4 6 11 = (A 6 11) := (rd_at hA4 (by decide)).trans e17
        have e15 : A8 6 11 = (A 6 11) := (hj7 6 11 rfl rfl).trans e16
        have r18 : (-2147483648 : Int) ≤ (A 6 11) ∧ (A 6 11) ≤ 76832 := by rw [← e15]; exact irAL_11 hI
        refine va_get (D := (dC, dI)) (ci := 0) (v := .int (iI (A8 6 11))) (C := RX0) (T := TX0) (N := 17) hx hb hts hiX0 hown hK hP 6 (wkAL) rfl 11 (by decide) (hts _ (List.mem_cons_of_mem _ (wk_in_0 _ (List.mem_of_getElem? (i := 20) rfl)))) (fun _ h9 => h9) rfl dX0_advance_34 ?_
        refine tp_i (y := iI (A 6 11)) (congrArg iI e15) ?_
        refine lv_icmp_ge (tgt := 66) hx hb dX0_advance_37 (by decide) (fun c19 => ?_) (fun c19 => ?_)
        · have c19 : (A 6 11) ≤ 64 * z5 := (i_le (rb r18 (by decide) (by decide)) (by omega)).mp c19
          refine lv_iload_n hx hb dX0_advance_66 rfl (lv_at hl 1 rfl) ?_
          exact RET z6 _ _ _ _ _ ⟨hI, fk.trans (fk.df (fk.df (fk.rf) hA3 rfl) hA4 rfl) hj7 rfl rfl, f12⟩ hP hS dX0_advance_67
        · have c19 : ¬ (A 6 11) ≤ 64 * z5 := mt (i_le (rb r18 (by decide) (by decide)) (by omega)).mpr c19
          refine lv_aload_n hx hb dX0_advance_40 rfl (lv_at hl 3 rfl) ?_
          have e21 : A4 6 8 = (A 6 7) := rd_is hA4
          have e20 : A8 6 8 = (A 6 7) := (hj7 6 8 rfl rfl).trans e21
          refine va_get (D := (dC, dI)) (ci := 0) (v := .ref (q (18 + (A8 6 8).toNat))) (C := RX0) (T := TX0) (N := 17) hx hb hts hiX0 hown hK hP 6 (wkAL) rfl 8 (by decide) (hts _ (List.mem_cons_of_mem _ (wk_in_2 _ (List.mem_of_getElem? (i := 9) rfl)))) (fun _ h9 => h9) rfl dX0_advance_41 ?_
          refine tp_v (y := .ref (q (18 + ((A 6 7)).toNat))) (by rw [e20]) ?_
          refine lv_iload_n hx hb dX0_advance_44 rfl (lv_at hl 0 rfl) ?_
          refine lv_lconst (v := jI 0) hx hb dX0_advance_45 (by decide +kernel) ?_
          refine k_last (Wf := WK cB cI cJ cZ cQ q) hx hb hK hP hDD hS (18 + ((A 6 7)).toNat) 2 (wkALf (i := (A 6 7)) (by omega)) rfl (by omega) (by decide) dX0_advance_46 (wsALf (i := (A 6 7)) (by omega)) (fun H locs A22 hA22 hP hS => ?_)
          have hI := isALf (i := (A 6 7)) (by omega) hA22 hI (show (-9223372036854775808 : Int) ≤ 0 ∧ 0 ≤ 9223372036854775807 from ⟨by decide, by decide⟩)
          refine lv_aload_n hx hb dX0_advance_47 rfl (lv_at hl 3 rfl) ?_
          have e26 : A3 6 7 = (A 6 8) := rd_is hA3
          have e25 : A4 6 7 = (A 6 8) := (rd_at hA4 (by decide)).trans e26
          have e24 : A8 6 7 = (A 6 8) := (hj7 6 7 rfl rfl).trans e25
          have e23 : A22 6 7 = (A 6 8) := (rd_ne hA22 (by omega) 7).trans e24
          refine va_get (D := (dC, dI)) (ci := 0) (v := .ref (q (18 + (A22 6 7).toNat))) (C := RX0) (T := TX0) (N := 17) hx hb hts hiX0 hown hK hP 6 (wkAL) rfl 7 (by decide) (hts _ (List.mem_cons_of_mem _ (wk_in_2 _ (List.mem_of_getElem? (i := 31) rfl)))) (fun _ h9 => h9) rfl dX0_advance_48 ?_
          refine tp_v (y := .ref (q (18 + ((A 6 8)).toNat))) (by rw [e23]) ?_
          refine lv_iload_n hx hb dX0_advance_51 rfl (lv_at hl 0 rfl) ?_
          refine x_lald (Wf := WK cB cI cJ cZ cQ q) hx hb hK hP (18 + ((A 6 8)).toNat) 2 (wkALf (i := (A 6 8)) (by omega)) rfl (by omega) (by decide) dX0_advance_52 (fun z27 hz27 => ?_)
          have rz27 : (-9223372036854775808 : Int) ≤ z27 ∧ z27 ≤ 9223372036854775807 := by rw [hz27]; exact irALf (i := (A 6 8)) (by omega) hI
          refine lv_lconst (v := jI 0) hx hb dX0_advance_53 (by decide +kernel) ?_
          refine x_lcmp hx hb dX0_advance_54 (by omega) (by omega) (fun z28 hz28 hz28b hz28c => ?_)
          clear hz28b hz28c
          have J60_30 : ∀ (z31 : Int) (H : Heap) (locs : List Loc) (ls : Array Slot), (0 ≤ z31 ∧ z31 ≤ 1) → va_P (dC, dI) vwCl (WK cB cI cJ cZ cQ q A22) H → va_S AS s.heap H locs → lv_has ls 4 [(3, .int (iI z5)), (2, .int (iI z31)), (1, .ref (q (18 + ((A 6 7)).toNat))), (0, .ref (q 6))] → W p l e (headSpec ws_kc_X0_advance ({ frames := 0, cells := 0, slots := 0, locals := 0 } : Room)).room s m [.ref (q 6)].toArray below meth c H locs 0 0 Q (F0 m 60 ls []) := by
            intro z31 H locs ls f33 hP hS hl
            refine lv_iinc (v := iI (z5 + 1)) (lv' := [(3, .int (iI (z5 + 1))), (2, .int (iI z31)), (1, .ref (q (18 + ((A 6 7)).toNat))), (0, .ref (q 6))]) hx hb dX0_advance_60 hl (k := 0) rfl (i_inc (by omega)) (by decide) rfl (fun ls hl => ?_)
            refine lv_goto (tgt := 22) hx hb dX0_advance_63 (by decide) ?_
            exact ih10 _ (by omega) (z5 + 1) z31 _ _ _ _ (by omega) (by omega) rfl hI (fk.da (fk.trans (fk.rf) hj7 rfl rfl) hA22 (by rcases (show (A 6 7) = 0 ∨ (A 6 7) = 1 by omega) with g | g <;> rw [g] <;> rfl)) hP hS (lv_sub hl [0, 1, 2, 3] rfl)
          refine lv_if_eq (tgt := 60) hx hb dX0_advance_55 (by decide) (fun c29 => ?_) (fun c29 => ?_)
          · have c29 : z28 = 0 := (i_eq0 (by omega)).mp c29
            exact J60_30 z6 _ _ _ (by omega) hP hS (lv_sub hl [0, 1, 2, 3] rfl)
          · have c29 : ¬ z28 = 0 := mt (i_eq0 (by omega)).mpr c29
            refine lv_iconst (v := iI 1) hx hb dX0_advance_58 (by decide +kernel) ?_
            refine lv_istore_n (lv' := [(2, .int (iI 1)), (3, .int (iI z5)), (1, .ref (q (18 + ((A 6 7)).toNat))), (0, .ref (q 6))]) hx hb dX0_advance_59 rfl hl (by decide) rfl (fun ls hl => ?_)
            exact J60_30 1 _ _ _ (by omega) hP hS (lv_sub hl [1, 0, 2, 3] rfl)
  exact L22_9 _ 0 0 _ _ _ _ (by omega) (by omega) rfl hI (fk.rf) hP hS (lv_sub hl [0, 1, 2, 3] rfl)

def ws_kc_X0_isGoal : List Cond := .code yX0_isGoal cX0_isGoal 4 (some .boolean) :: WY
set_option maxHeartbeats 4000000 in
set_option maxRecDepth 100000 in
theorem kc_X0_isGoal (l : Launch) (dC : Nat → ClassId) (dI : Nat → Nat → Nat) (cB cI cJ cZ cQ : ClassId) (aL aS : Nat) (q : Nat → Nat) (A : St) (x1 x2 x3 : Int) (hI : IK A) (hx1 : (-2147483648 : Int) ≤ x1 ∧ x1 ≤ 2147483647) (hx2 : (-2147483648 : Int) ≤ x2 ∧ x2 ≤ 2147483647) (hx3 : (-2147483648 : Int) ≤ x3 ∧ x3 ≤ 2147483647) : KMi l yX0_isGoal ws_kc_X0_isGoal ({ frames := 0, cells := 0, slots := 0, locals := 0 } : Room) aL aS (dC, dI) (tyA cB cI cJ cZ cQ) (WK cB cI cJ cZ cQ q) A [.ref (q 6), .int (iI x1), .int (iI x2), .int (iI x3)] (fun z u => A = u ∧ (0 ≤ z ∧ z ≤ 1)) := by
  refine k_metz (cc := cX0_isGoal) (maxL := 4) WK_adr (plainFor_of_name (by decide +kernel)) rfl (Nat.le_of_ble_eq_true rfl) (fun z u h => h.2) (fun p e s m below meth c Q AS ls hx hb hml hown hts hK hDD hA0 hE RET H locs hP hS hl => ?_)
  have hown : s.vm.findClass RX0 = some m.cls := hown
  have hl : lv_has ls 4 [(0, .ref (q 6)), (1, .int (iI x1)), (2, .int (iI x2)), (3, .int (iI x3))] := hl
  have hiX0 : ∀ w ∈ u_ws RX0 TX0 17, w ∈ ws_kc_X0_isGoal := fun w h => List.mem_cons_of_mem _ (wy_layX0 w h)
  refine lv_aload_n hx hb dX0_isGoal_0 rfl (lv_at hl 0 rfl) ?_
  have r1 : (-2147483648 : Int) ≤ (A 6 13) ∧ (A 6 13) ≤ 2147483647 := irAL_13 hI
  refine va_get (D := (dC, dI)) (ci := 0) (v := .int (iI (A 6 13))) (C := RX0) (T := TX0) (N := 17) hx hb hts hiX0 hown hK hP 6 (wkAL) rfl 13 (by decide) (hts _ (List.mem_cons_of_mem _ (wk_in_0 _ (List.mem_of_getElem? (i := 16) rfl)))) (fun _ h9 => h9) rfl dX0_isGoal_1 ?_
  rcases (show ((A 6 13) < 0 ∨ 2 < (A 6 13)) ∨ (A 6 13) = 0 ∨ (A 6 13) = 1 ∨ (A 6 13) = 2 by omega) with c2 | c2 | c2 | c2
  · refine lv_tableOut (tgt := 81) hx hb dX0_isGoal_4 (by rw [iI_toInt r1]; exact c2) (by decide) ?_
    refine lv_aload_n hx hb dX0_isGoal_81 rfl (lv_at hl 0 rfl) ?_
    have r3 : (-2147483648 : Int) ≤ (A 6 15) ∧ (A 6 15) ≤ 2147483647 := irAL_15 hI
    refine va_get (D := (dC, dI)) (ci := 0) (v := .int (iI (A 6 15))) (C := RX0) (T := TX0) (N := 17) hx hb hts hiX0 hown hK hP 6 (wkAL) rfl 15 (by decide) (hts _ (List.mem_cons_of_mem _ (wk_in_0 _ (List.mem_of_getElem? (i := 2) rfl)))) (fun _ h9 => h9) rfl dX0_isGoal_82 ?_
    refine lv_aload_n hx hb dX0_isGoal_85 rfl (lv_at hl 0 rfl) ?_
    have r4 : (-2147483648 : Int) ≤ (A 6 14) ∧ (A 6 14) ≤ 2147483647 := irAL_14 hI
    refine va_get (D := (dC, dI)) (ci := 0) (v := .int (iI (A 6 14))) (C := RX0) (T := TX0) (N := 17) hx hb hts hiX0 hown hK hP 6 (wkAL) rfl 14 (by decide) (hts _ (List.mem_cons_of_mem _ (wk_in_0 _ (List.mem_of_getElem? (i := 17) rfl)))) (fun _ h9 => h9) rfl dX0_isGoal_86 ?_
    refine lv_icmp_ne (tgt := 96) hx hb dX0_isGoal_89 (by decide) (fun c5 => ?_) (fun c5 => ?_)
    · have c5 : ¬ (A 6 15) = (A 6 14) := mt (i_eq r3 r4).mpr c5
      refine lv_iconst (v := iI 0) hx hb dX0_isGoal_96 (by decide +kernel) ?_
      exact RET 0 _ _ _ _ _ ⟨rfl, ⟨by decide, by decide⟩⟩ hP hS dX0_isGoal_97
    · have c5 : (A 6 15) = (A 6 14) := (i_eq r3 r4).mp c5
      refine lv_iconst (v := iI 1) hx hb dX0_isGoal_92 (by decide +kernel) ?_
      refine lv_goto (tgt := 97) hx hb dX0_isGoal_93 (by decide) ?_
      exact RET 1 _ _ _ _ _ ⟨rfl, ⟨by decide, by decide⟩⟩ hP hS dX0_isGoal_97
  · refine tp_i (y := iI 0) (congrArg iI c2) ?_
    refine lv_tableIn (off := 28) (tgt := 32) hx hb dX0_isGoal_4 (by decide +kernel) (by decide +kernel) (by decide +kernel) (by decide) ?_
    refine lv_iload_n hx hb dX0_isGoal_32 rfl (lv_at hl 1 rfl) ?_
    refine lv_aload_n hx hb dX0_isGoal_33 rfl (lv_at hl 0 rfl) ?_
    have r6 : (-2147483648 : Int) ≤ (A 6 14) ∧ (A 6 14) ≤ 2147483647 := irAL_14 hI
    refine va_get (D := (dC, dI)) (ci := 0) (v := .int (iI (A 6 14))) (C := RX0) (T := TX0) (N := 17) hx hb hts hiX0 hown hK hP 6 (wkAL) rfl 14 (by decide) (hts _ (List.mem_cons_of_mem _ (wk_in_0 _ (List.mem_of_getElem? (i := 17) rfl)))) (fun _ h9 => h9) rfl dX0_isGoal_34 ?_
    refine lv_icmp_ne (tgt := 44) hx hb dX0_isGoal_37 (by decide) (fun c7 => ?_) (fun c7 => ?_)
    · have c7 : ¬ x1 = (A 6 14) := mt (i_eq hx1 r6).mpr c7
      refine lv_iconst (v := iI 0) hx hb dX0_isGoal_44 (by decide +kernel) ?_
      exact RET 0 _ _ _ _ _ ⟨rfl, ⟨by decide, by decide⟩⟩ hP hS dX0_isGoal_45
    · have c7 : x1 = (A 6 14) := (i_eq hx1 r6).mp c7
      refine lv_iconst (v := iI 1) hx hb dX0_isGoal_40 (by decide +kernel) ?_
      refine lv_goto (tgt := 45) hx hb dX0_isGoal_41 (by decide) ?_
      exact RET 1 _ _ _ _ _ ⟨rfl, ⟨by decide, by decide⟩⟩ hP hS dX0_isGoal_45
  · refine tp_i (y := iI 1) (congrArg iI c2) ?_
    refine lv_tableIn (off := 42) (tgt := 46) hx hb dX0_isGoal_4 (by decide +kernel) (by decide +kernel) (by decide +kernel) (by decide) ?_
    refine lv_iload_n hx hb dX0_isGoal_46 rfl (lv_at hl 2 rfl) ?_
    refine lv_aload_n hx hb dX0_isGoal_47 rfl (lv_at hl 0 rfl) ?_
    have r8 : (-2147483648 : Int) ≤ (A 6 14) ∧ (A 6 14) ≤ 2147483647 := irAL_14 hI
    refine va_get (D := (dC, dI)) (ci := 0) (v := .int (iI (A 6 14))) (C := RX0) (T := TX0) (N := 17) hx hb hts hiX0 hown hK hP 6 (wkAL) rfl 14 (by decide) (hts _ (List.mem_cons_of_mem _ (wk_in_0 _ (List.mem_of_getElem? (i := 17) rfl)))) (fun _ h9 => h9) rfl dX0_isGoal_48 ?_
    refine lv_ishr hx hb dX0_isGoal_51 ?_
    refine x_abs (fun z9 hz9 => ?_)
    refine lv_iconst (v := iI 1) hx hb dX0_isGoal_52 (by decide +kernel) ?_
    refine lv_iand hx hb dX0_isGoal_53 ?_
    refine x_and (b := 1) (by omega) (fun z10 hz10 => ?_)
    refine lv_if_ne (tgt := 61) hx hb dX0_isGoal_54 (by decide) (fun c11 => ?_) (fun c11 => ?_)
    · have c11 : ¬ z10 = 0 := mt (i_eq0 (by omega)).mpr c11
      refine lv_iconst (v := iI 0) hx hb dX0_isGoal_61 (by decide +kernel) ?_
      exact RET 0 _ _ _ _ _ ⟨rfl, ⟨by decide, by decide⟩⟩ hP hS dX0_isGoal_62
    · have c11 : z10 = 0 := (i_eq0 (by omega)).mp c11
      refine lv_iconst (v := iI 1) hx hb dX0_isGoal_57 (by decide +kernel) ?_
      refine lv_goto (tgt := 62) hx hb dX0_isGoal_58 (by decide) ?_
      exact RET 1 _ _ _ _ _ ⟨rfl, ⟨by decide, by decide⟩⟩ hP hS dX0_isGoal_62
  · refine tp_i (y := iI 2) (congrArg iI c2) ?_
    refine lv_tableIn (off := 59) (tgt := 63) hx hb dX0_isGoal_4 (by decide +kernel) (by decide +kernel) (by decide +kernel) (by decide) ?_
    refine lv_iload_n hx hb dX0_isGoal_63 rfl (lv_at hl 3 rfl) ?_
    refine lv_iconst (v := iI 1) hx hb dX0_isGoal_64 (by decide +kernel) ?_
    refine lv_aload_n hx hb dX0_isGoal_65 rfl (lv_at hl 0 rfl) ?_
    have r12 : (0 : Int) ≤ (A 6 9) ∧ (A 6 9) ≤ 2 := irAL_9 hI
    refine va_get (D := (dC, dI)) (ci := 0) (v := .int (iI (A 6 9))) (C := RX0) (T := TX0) (N := 17) hx hb hts hiX0 hown hK hP 6 (wkAL) rfl 9 (by decide) (hts _ (List.mem_cons_of_mem _ (wk_in_0 _ (List.mem_of_getElem? (i := 29) rfl)))) (fun _ h9 => h9) rfl dX0_isGoal_66 ?_
    refine lv_ishl hx hb dX0_isGoal_69 ?_
    refine x_abs (fun z13 hz13 => ?_)
    refine lv_iconst (v := iI 1) hx hb dX0_isGoal_70 (by decide +kernel) ?_
    refine x_subv (v := z13 - 1) hx hb dX0_isGoal_71 (by omega) ?_
    refine x_abs (fun z14 hz14 => ?_)
    refine lv_icmp_ne (tgt := 79) hx hb dX0_isGoal_72 (by decide) (fun c15 => ?_) (fun c15 => ?_)
    · have c15 : ¬ x3 = z14 := mt (i_eq hx3 hz14).mpr c15
      refine lv_iconst (v := iI 0) hx hb dX0_isGoal_79 (by decide +kernel) ?_
      exact RET 0 _ _ _ _ _ ⟨rfl, ⟨by decide, by decide⟩⟩ hP hS dX0_isGoal_80
    · have c15 : x3 = z14 := (i_eq hx3 hz14).mp c15
      refine lv_iconst (v := iI 1) hx hb dX0_isGoal_75 (by decide +kernel) ?_
      refine lv_goto (tgt := 80) hx hb dX0_isGoal_76 (by decide) ?_
      exact RET 1 _ _ _ _ _ ⟨rfl, ⟨by decide, by decide⟩⟩ hP hS dX0_isGoal_80

def ws_kc_X9_otherSide : List Cond := .code yX9_otherSide cX9_otherSide 3 (some .int) :: WY
set_option maxHeartbeats 4000000 in
set_option maxRecDepth 100000 in
theorem kc_X9_otherSide (l : Launch) (dC : Nat → ClassId) (dI : Nat → Nat → Nat) (cB cI cJ cZ cQ : ClassId) (aL aS : Nat) (q : Nat → Nat) (A : St) (ta : Nat) (x1 x2 : Int) (hI : IK A) (hta : isT ta) (hx1 : (-2147483648 : Int) ≤ x1 ∧ x1 ≤ 2147483647) (hx2 : (-2147483648 : Int) ≤ x2 ∧ x2 ≤ 2147483647) : KMi l yX9_otherSide ws_kc_X9_otherSide ({ frames := 1, cells := 0, slots := 0, locals := 22 } : Room) aL aS (dC, dI) (tyA cB cI cJ cZ cQ) (WK cB cI cJ cZ cQ q) A [.ref (q ta), .int (iI x1), .int (iI x2)] (fun z u => A = u ∧ (-2147483648 ≤ z ∧ z ≤ 2147483647)) := by
  refine k_meti (cc := cX9_otherSide) (maxL := 3) WK_adr (plainFor_of_name (by decide +kernel)) rfl (Nat.le_of_ble_eq_true rfl) (fun p e s m below meth c Q AS ls hx hb hml hown hts hK hDD hA0 hE RET H locs hP hS hl => ?_)
  have hown : s.vm.findClass RX9 = some m.cls := hown
  have hl : lv_has ls 3 [(0, .ref (q ta)), (1, .int (iI x1)), (2, .int (iI x2))] := hl
  have hiX9 : ∀ w ∈ u_ws RX9 TX9 16, w ∈ ws_kc_X9_otherSide := fun w h => List.mem_cons_of_mem _ (wy_layX9 w h)
  refine lv_aload_n hx hb dX9_otherSide_0 rfl (lv_at hl 0 rfl) ?_
  refine lv_iconst (v := iI 1) hx hb dX9_otherSide_1 (by decide +kernel) ?_
  refine lv_iload_n hx hb dX9_otherSide_2 rfl (lv_at hl 1 rfl) ?_
  refine k_calli (As := [.int (iI 1), .int (iI x1)]) (rest := []) ⟨hx, hb, hml, hown, hts⟩ hE (kc_X9_isThere_1_1 l dC dI cB cI cJ cZ cQ aL aS q _ ta x1 hI hta hx1) (cwV 2 hts (goodVk (wk_in_2 _ (List.mem_of_getElem? (i := 52) rfl)) (wk_in_0 _ (List.mem_of_getElem? (i := 22) rfl)) (wk_in_0 _ (List.mem_of_getElem? (i := 23) rfl)) (wk_in_0 _ (List.mem_of_getElem? (i := 6) rfl)) (wk_in_0 _ (List.mem_of_getElem? (i := 24) rfl))) rfl rfl rfl (by decide +kernel) ⟨Nat.le_of_ble_eq_true rfl, Nat.le_of_ble_eq_true rfl⟩) hK hDD hA0 hP hS ta 9 (wkT hta) rfl rfl hl.1 (Nat.le_of_ble_eq_true rfl) dX9_otherSide_3 (fun z1 A2 H locs hw3 hP hS => ?_)
  obtain ⟨rfl, hw3⟩ := hw3
  have rz1 : 0 ≤ z1 ∧ z1 ≤ 1 := hw3.1
  have hw3 := hw3.2
  refine lv_if_ne (tgt := 11) hx hb dX9_otherSide_6 (by decide) (fun c4 => ?_) (fun c4 => ?_)
  · have c4 : ¬ z1 = 0 := mt (i_eq0 (rb rz1 (by decide) (by decide))).mpr c4
    have hw3b := hw3 (by omega)
    clear hw3
    refine lv_aload_n hx hb dX9_otherSide_11 rfl (lv_at hl 0 rfl) ?_
    refine va_get (D := (dC, dI)) (ci := 9) (v := .ref (q (ta + 8))) (C := RX9) (T := TX9) (N := 16) hx hb hts hiX9 hown hK hP ta (wkT hta) rfl 2 (by decide) (hts _ (List.mem_cons_of_mem _ (wk_in_1 _ (List.mem_of_getElem? (i := 14) rfl)))) (fun _ h9 => h9) rfl dX9_otherSide_12 ?_
    refine lv_iload_n hx hb dX9_otherSide_15 rfl (lv_at hl 1 rfl) ?_
    refine x_iald (Wf := WK cB cI cJ cZ cQ q) hx hb hK hP (ta + 8) 1 (wkTf hta) rfl (by omega) (by decide) dX9_otherSide_16 (fun z5 hz5 => ?_)
    have rz5 : (-2147483648 : Int) ≤ z5 ∧ z5 ≤ 2147483647 := by rw [hz5]; exact irTf hta hI
    refine lv_iload_n hx hb dX9_otherSide_17 rfl (lv_at hl 2 rfl) ?_
    refine lv_icmp_ne (tgt := 30) hx hb dX9_otherSide_18 (by decide) (fun c6 => ?_) (fun c6 => ?_)
    · have c6 : ¬ z5 = x2 := mt (i_eq rz5 hx2).mpr c6
      refine lv_aload_n hx hb dX9_otherSide_30 rfl (lv_at hl 0 rfl) ?_
      refine va_get (D := (dC, dI)) (ci := 9) (v := .ref (q (ta + 8))) (C := RX9) (T := TX9) (N := 16) hx hb hts hiX9 hown hK hP ta (wkT hta) rfl 2 (by decide) (hts _ (List.mem_cons_of_mem _ (wk_in_1 _ (List.mem_of_getElem? (i := 14) rfl)))) (fun _ h9 => h9) rfl dX9_otherSide_31 ?_
      refine lv_iload_n hx hb dX9_otherSide_34 rfl (lv_at hl 1 rfl) ?_
      refine x_iald (Wf := WK cB cI cJ cZ cQ q) hx hb hK hP (ta + 8) 1 (wkTf hta) rfl (by omega) (by decide) dX9_otherSide_35 (fun z7 hz7 => ?_)
      have rz7 : (-2147483648 : Int) ≤ z7 ∧ z7 ≤ 2147483647 := by rw [hz7]; exact irTf hta hI
      have ez7 : z7 = z5 := hz7.trans hz5.symm
      refine tp_i (y := iI z5) (congrArg iI ez7) ?_
      exact RET z5 _ _ _ _ _ ⟨rfl, rz5⟩ hP hS dX9_otherSide_36
    · have c6 : z5 = x2 := (i_eq rz5 hx2).mp c6
      refine lv_aload_n hx hb dX9_otherSide_21 rfl (lv_at hl 0 rfl) ?_
      refine va_get (D := (dC, dI)) (ci := 9) (v := .ref (q (ta + 9))) (C := RX9) (T := TX9) (N := 16) hx hb hts hiX9 hown hK hP ta (wkT hta) rfl 3 (by decide) (hts _ (List.mem_cons_of_mem _ (wk_in_1 _ (List.mem_of_getElem? (i := 15) rfl)))) (fun _ h9 => h9) rfl dX9_otherSide_22 ?_
      refine lv_iload_n hx hb dX9_otherSide_25 rfl (lv_at hl 1 rfl) ?_
      refine x_iald (Wf := WK cB cI cJ cZ cQ q) hx hb hK hP (ta + 9) 1 (wkTs hta) rfl (by omega) (by decide) dX9_otherSide_26 (fun z8 hz8 => ?_)
      have rz8 : (-2147483648 : Int) ≤ z8 ∧ z8 ≤ 2147483647 := by rw [hz8]; exact irTs hta hI
      refine lv_goto (tgt := 36) hx hb dX9_otherSide_27 (by decide) ?_
      exact RET z8 _ _ _ _ _ ⟨rfl, rz8⟩ hP hS dX9_otherSide_36
  · have c4 : z1 = 0 := (i_eq0 (rb rz1 (by decide) (by decide))).mp c4
    clear hw3
    refine lv_iconst (v := iI (-1)) hx hb dX9_otherSide_9 (by decide +kernel) ?_
    exact RET (-1) _ _ _ _ _ ⟨rfl, ⟨by decide, by decide⟩⟩ hP hS dX9_otherSide_10
