def ws_mc_X12_thing : List Cond := .code yX12_thing cX12_thing 2 none :: ([.fieldLink RX12 104 "StackKeysModel" "things" "[I", .fieldLink RX12 155 "StackKeysModel" "in" "I", .methodLink RX12 394 yX12_counts, .instanceMethod yX12_counts, .selects RX12 yX12_counts yX12_counts, .initialized RX12, .code yX12_counts cX12_counts 2 (some .boolean), .fieldLink RX12 36 "StackKeysModel" "faultKind" "I", .fieldLink RX12 23 "StackKeysModel" "signAt" "I", .methodLink RX12 286 yX12_blame, .instanceMethod yX12_blame, .selects RX12 yX12_blame yX12_blame, .code yX12_blame cX12_blame 3 none, .fieldLink RX12 39 "StackKeysModel" "faultPlace" "I", .methodLink RX12 293 yX12_ahead, .instanceMethod yX12_ahead, .selects RX12 yX12_ahead yX12_ahead, .code yX12_ahead cX12_ahead 6 none, .fieldLink RX12 26 "StackKeysModel" "signEnd" "I", .fieldLink RX12 17 "StackKeysModel" "size" "I", .fieldLink RX12 7 "StackKeysModel" "tape" "[I", .fieldLink RX12 20 "StackKeysModel" "sign" "I", .methodLink RX12 279 yX12_isLetter, .static yX12_isLetter, .code yX12_isLetter cX12_isLetter 1 (some .boolean), .methodLink RX12 283 yX12_isDigit, .static yX12_isDigit, .code yX12_isDigit cX12_isDigit 1 (some .boolean), .fieldLink RX12 29 "StackKeysModel" "value" "I", .fieldLink RX12 32 "StackKeysModel" "word" "J", .fieldLink RX12 107 "StackKeysModel" "thingName" "[J", .methodLink RX12 398 yX12_fresh, .instanceMethod yX12_fresh, .selects RX12 yX12_fresh yX12_fresh, .code yX12_fresh cX12_fresh 3 (some .long), .methodLink RX12 387 yX12_isOwn, .instanceMethod yX12_isOwn, .selects RX12 yX12_isOwn yX12_isOwn, .code yX12_isOwn cX12_isOwn 3 (some .boolean), .constantLong RX12 296 (482854658917), .constantLong RX12 298 (1685024626), .constantLong RX12 300 (6451064), .constantLong RX12 302 (24948), .constantLong RX12 304 (7038329), .constantLong RX12 306 (26990), .constantLong RX12 308 (123581014175598), .constantLong RX12 310 (6840691), .constantLong RX12 312 (1936225652), .constantLong RX12 314 (25209), .constantLong RX12 316 (1819243380), .constantLong RX12 318 (499967946343), .constantLong RX12 320 (512735736947), .constantLong RX12 322 (1836413812), .constantLong RX12 324 (6447474), .constantLong RX12 326 (2003330414), .constantLong RX12 328 (28530), .constantLong RX12 330 (6385252), .constantLong RX12 332 (7237492), .constantLong RX12 334 (6384748), .constantLong RX12 336 (7825519), .constantLong RX12 338 (1936748404), .constantLong RX12 340 (1801812339), .constantLong RX12 342 (109317377451364), .constantLong RX12 344 (7170414), .constantLong RX12 346 (7168376), .methodLink RX12 390 yX12_named, .instanceMethod yX12_named, .selects RX12 yX12_named yX12_named, .code yX12_named cX12_named 6 (some .int), .fieldLink RX12 51 "StackKeysModel" "places" "[I", .methodLink RX12 348 yX12_nameOf, .instanceMethod yX12_nameOf, .selects RX12 yX12_nameOf yX12_nameOf, .code yX12_nameOf cX12_nameOf 4 (some .long), .fieldLink RX12 54 "StackKeysModel" "placeName" "[J", .fieldLink RX12 61 "StackKeysModel" "doorName" "[J", .fieldLink RX12 83 "StackKeysModel" "keyName" "[J", .fieldLink RX12 98 "StackKeysModel" "personName" "[J", .fieldLink RX12 58 "StackKeysModel" "doors" "[I", .fieldLink RX12 80 "StackKeysModel" "keys" "[I", .fieldLink RX12 95 "StackKeysModel" "persons" "[I", .fieldLink RX12 110 "StackKeysModel" "thingAt" "[I", .methodLink RX12 415 yX12_within, .instanceMethod yX12_within, .selects RX12 yX12_within yX12_within, .code yX12_within cX12_within 2 (some .int), .methodLink RX12 402 yX12_must_, .instanceMethod yX12_must_, .selects RX12 yX12_must_ yX12_must_, .code yX12_must_ cX12_must_ 3 none, .methodLink RX12 368 yX12_isWord, .instanceMethod yX12_isWord, .selects RX12 yX12_isWord yX12_isWord, .code yX12_isWord cX12_isWord 3 (some .boolean), .fieldLink RX12 70 "StackKeysModel" "isBox" "[Z", .methodLink RX12 406 yX12_asked, .instanceMethod yX12_asked, .selects RX12 yX12_asked yX12_asked, .code yX12_asked cX12_asked 3 (some .int)] ++ wsX120)
set_option maxRecDepth 20000 in
theorem g_mc_X12_thing_0 : GoodIn ws_mc_X12_thing (wsV RX12 394 RX12 yX12_counts ws_mc_X12_counts) := goodIn_r _ [3, 4, 5, 6, 7, 8, 9, 10, 11, 12, 6, 13, 14, 15, 16, 17, 18, 19, 20, 21, 22, 23, 24, 25, 26, 27, 28, 29, 30, 100, 101, 102, 103, 104, 105, 106, 107, 108, 109, 110, 111, 112, 113, 114, 115, 116, 117, 118, 119, 120, 121, 122, 123, 124, 125, 126, 127, 128, 129, 130, 131, 132, 133, 134, 135, 136, 137, 138, 139, 140, 141, 142, 143, 144, 145, 146, 147, 148, 149, 150, 151, 152, 153, 154, 155, 156, 157, 158, 159, 160, 161, 162, 163, 164, 165, 166, 167, 168, 169, 170, 171, 172, 173, 174, 175, 176, 177, 178, 179, 180, 181, 182, 183, 184] (by decide +kernel) (by decide +kernel)
set_option maxRecDepth 20000 in
theorem g_mc_X12_thing_1 : GoodIn ws_mc_X12_thing (wsV RX12 398 RX12 yX12_fresh ws_mc_X12_fresh) := goodIn_r _ [32, 33, 34, 6, 35, 8, 22, 30, 36, 37, 38, 6, 39, 40, 41, 42, 43, 44, 45, 46, 47, 48, 49, 50, 51, 52, 53, 54, 55, 56, 57, 58, 59, 60, 61, 62, 63, 64, 65, 9, 10, 11, 12, 13, 14, 66, 67, 68, 69, 70, 2, 71, 72, 73, 74, 31, 75, 76, 77, 78, 79, 80, 81, 1, 15, 16, 17, 18, 19, 20, 21, 23, 24, 25, 26, 27, 28, 29, 100, 101, 102, 103, 104, 105, 106, 107, 108, 109, 110, 111, 112, 113, 114, 115, 116, 117, 118, 119, 120, 121, 122, 123, 124, 125, 126, 127, 128, 129, 130, 131, 132, 133, 134, 135, 136, 137, 138, 139, 140, 141, 142, 143, 144, 145, 146, 147, 148, 149, 150, 151, 152, 153, 154, 155, 156, 157, 158, 159, 160, 161, 162, 163, 164, 165, 166, 167, 168, 169, 170, 171, 172, 173, 174, 175, 176, 177, 178, 179, 180, 181, 182, 183, 184] (by decide +kernel) (by decide +kernel)
set_option maxRecDepth 20000 in
theorem g_mc_X12_thing_2 : GoodIn ws_mc_X12_thing (wsV RX12 415 RX12 yX12_within ws_mc_X12_within) := goodIn_r _ [83, 84, 85, 6, 86, 45, 87, 88, 89, 6, 90, 8, 91, 92, 93, 94, 22, 30, 9, 10, 11, 12, 13, 14, 15, 16, 17, 18, 19, 20, 21, 23, 24, 25, 26, 27, 28, 29, 36, 37, 38, 39, 40, 41, 42, 43, 44, 46, 47, 48, 49, 50, 51, 52, 53, 54, 55, 56, 57, 58, 59, 60, 61, 62, 63, 64, 65, 66, 67, 68, 69, 70, 2, 71, 72, 73, 74, 31, 75, 76, 77, 78, 79, 80, 81, 1, 95, 96, 97, 98, 99, 100, 101, 102, 103, 104, 105, 106, 107, 108, 109, 110, 111, 112, 113, 114, 115, 116, 117, 118, 119, 120, 121, 122, 123, 124, 125, 126, 127, 128, 129, 130, 131, 132, 133, 134, 135, 136, 137, 138, 139, 140, 141, 142, 143, 144, 145, 146, 147, 148, 149, 150, 151, 152, 153, 154, 155, 156, 157, 158, 159, 160, 161, 162, 163, 164, 165, 166, 167, 168, 169, 170, 171, 172, 173, 174, 175, 176, 177, 178, 179, 180, 181, 182, 183, 184] (by decide +kernel) (by decide +kernel)
set_option maxHeartbeats 4000000 in
set_option maxRecDepth 100000 in
theorem mc_X12_thing (l : Launch) (dC : Nat → ClassId) (dI : Nat → Nat → Nat) (cB cI cJ cZ cQ : ClassId) (q : Nat → Nat) (A : St) (hI : IM A) : XMv l yX12_thing ws_mc_X12_thing ({ frames := 4, cells := 0, slots := 0, locals := 91 } : Room) (dC, dI) (tyA cB cI cJ cZ cQ) (WM cI cJ cZ q) A [.ref (q 0)] (fun u => IM u ∧ fr [19, 20, 21] [3, 4, 5, 6, 7, 8, 9] A u ∧ (True)) := by
  refine x_metv (cc := cX12_thing) (maxL := 2) WM_adr (by decide +kernel) rfl (Nat.le_of_ble_eq_true rfl) (fun p e s m below meth c Q AS ls hx hb hml hown hts hK hDD hA0 hP hS hl RET => ?_)
  have hown : s.vm.findClass RX12 = some m.cls := hown
  have hl : lv_has ls 2 [(0, .ref (q 0))] := hl
  have hiX12 : ∀ w ∈ u_ws RX12 TX12 85, w ∈ ws_mc_X12_thing := fun w h => List.mem_cons_of_mem _ (List.mem_append_right _ h)
  obtain ⟨H, hHe⟩ : ∃ H : Heap, H = s.heap := ⟨_, rfl⟩
  rw [← hHe] at hP
  have hS : va_S AS s.heap H [] := by rw [hHe]; exact hS
  suffices hgo : ∀ locs : List Loc, va_S AS s.heap H locs → W p l e (headSpec ws_mc_X12_thing ({ frames := 4, cells := 0, slots := 0, locals := 91 } : Room)).room s m [.ref (q 0)].toArray below meth c H locs 0 0 Q (F0 m 0 ls []) by
    have := hgo [] hS
    rw [hHe] at this
    exact this
  clear hS hHe
  intro locs hS
  refine lv_aload_n hx hb dX12_thing_0 rfl (lv_at hl 0 rfl) ?_
  refine lv_aload_n hx hb dX12_thing_1 rfl (lv_at hl 0 rfl) ?_
  refine va_get (D := (dC, dI)) (ci := 12) (v := .ref (q 19)) (C := RX12) (T := TX12) (N := 85) hx hb hts hiX12 hown hK hP 0 wm0 rfl 30 (by decide) (hts _ (List.mem_of_getElem? (i := 1) rfl)) (fun _ h9 => h9) rfl dX12_thing_2 ?_
  refine lv_aload_n hx hb dX12_thing_5 rfl (lv_at hl 0 rfl) ?_
  refine va_get (D := (dC, dI)) (ci := 12) (v := .int (iI (A 0 47))) (C := RX12) (T := TX12) (N := 85) hx hb hts hiX12 hown hK hP 0 wm0 rfl 47 (by decide) (hts _ (List.mem_of_getElem? (i := 2) rfl)) (fun _ h9 => h9) rfl dX12_thing_6 ?_
  have r_A_0_47 : (0 : Int) ≤ (A 0 47) ∧ (A 0 47) ≤ 1 := hI 0 47
  refine x_iald hx hb hK hP 19 1 wm19 rfl (by omega) (by decide) dX12_thing_9 (fun z1 hz1 => ?_)
  have rz1 : (0 : Int) ≤ z1 ∧ z1 ≤ 4 := by rw [hz1]; exact hI 19 _
  have hz1 : z1 = A 19 ((A 0 47)).toNat := hz1
  refine lv_iconst (v := iI 4) hx hb dX12_thing_10 (by decide +kernel) ?_
  have J19_3 : ∀ (z4 : Int) (H : Heap) (locs : List Loc) (ls : Array Slot), (0 ≤ z4 ∧ z4 ≤ 1) → ((z4 = 0 ∧ ¬ z1 = 4) ∨ (z4 = 1 ∧ z1 = 4)) → va_P (dC, dI) vwCl (WM cI cJ cZ q A) H → va_S AS s.heap H locs → lv_has ls 2 [(0, .ref (q 0))] → W p l e (headSpec ws_mc_X12_thing ({ frames := 4, cells := 0, slots := 0, locals := 91 } : Room)).room s m [.ref (q 0)].toArray below meth c H locs 0 0 Q (F0 m 19 ls [.int (iI z4), .ref (q 0)]) := by
    intro z4 H locs ls f6 f7 hP hS hl
    refine x_calli (As := [.int (iI z4)]) (rest := []) ⟨hx, hb, hml, hown, hts⟩ (mc_X12_counts l dC dI cB cI cJ cZ cQ q _ z4 hI f6) (cwV 1 hts g_mc_X12_thing_0 rfl rfl rfl (by decide +kernel) ⟨Nat.le_of_ble_eq_true rfl, Nat.le_of_ble_eq_true rfl⟩) hK hDD hA0 hP hS 0 12 wm0 rfl rfl hl.1 (Nat.le_of_ble_eq_true rfl) dX12_thing_19 (fun z8 A9 H locs hw10 hP hS => ?_)
    obtain ⟨hI, hf11, hw10⟩ := hw10
    have r_A9_0_8 : (0 : Int) ≤ (A9 0 8) ∧ (A9 0 8) ≤ 5 := hI 0 8
    have rz8 : 0 ≤ z8 ∧ z8 ≤ 1 := hw10.1
    refine lv_if_ne (tgt := 26) hx hb dX12_thing_22 (by decide) (fun c12 => ?_) (fun c12 => ?_)
    · have c12 : ¬ z8 = 0 := mt (i_eq0 (rb rz8 (by decide) (by decide))).mpr c12
      refine lv_iconst (v := iI 4) hx hb dX12_thing_26 (by decide +kernel) ?_
      refine lv_aload_n hx hb dX12_thing_27 rfl (lv_at hl 0 rfl) ?_
      have e_A9_47 : A9 0 47 = (A 0 47) := (hf11.2 47 rfl)
      refine va_get (D := (dC, dI)) (ci := 12) (v := .int (iI (A9 0 47))) (C := RX12) (T := TX12) (N := 85) hx hb hts hiX12 hown hK hP 0 wm0 rfl 47 (by decide) (hts _ (List.mem_of_getElem? (i := 2) rfl)) (fun _ h9 => h9) rfl dX12_thing_28 ?_
      refine tp_i (y := iI (A 0 47)) (congrArg iI e_A9_47) ?_
      refine x_mulv (v := 4 * (A 0 47)) hx hb dX12_thing_31 (by omega) ?_
      refine lv_aload_n hx hb dX12_thing_32 rfl (lv_at hl 0 rfl) ?_
      refine va_get (D := (dC, dI)) (ci := 12) (v := .ref (q 19)) (C := RX12) (T := TX12) (N := 85) hx hb hts hiX12 hown hK hP 0 wm0 rfl 30 (by decide) (hts _ (List.mem_of_getElem? (i := 1) rfl)) (fun _ h9 => h9) rfl dX12_thing_33 ?_
      refine lv_aload_n hx hb dX12_thing_36 rfl (lv_at hl 0 rfl) ?_
      refine va_get (D := (dC, dI)) (ci := 12) (v := .int (iI (A9 0 47))) (C := RX12) (T := TX12) (N := 85) hx hb hts hiX12 hown hK hP 0 wm0 rfl 47 (by decide) (hts _ (List.mem_of_getElem? (i := 2) rfl)) (fun _ h9 => h9) rfl dX12_thing_37 ?_
      refine tp_i (y := iI (A 0 47)) (congrArg iI e_A9_47) ?_
      have a_A9_19 : A9 19 = A 19 := (hf11.1 19 (by decide) rfl)
      refine x_iald hx hb hK hP 19 1 wm19 rfl (by omega) (by decide) dX12_thing_40 (fun z13 hz13 => ?_)
      have rz13 : (0 : Int) ≤ z13 ∧ z13 ≤ 4 := by rw [hz13]; exact hI 19 _
      have hz13 : z13 = A 19 ((A 0 47)).toNat := hz13.trans (congrFun a_A9_19 _)
      have ez13 : z13 = z1 := hz13.trans hz1.symm
      refine x_addv (v := 4 * (A 0 47) + z13) hx hb dX12_thing_41 (by omega) ?_
      refine lv_istore_n (lv' := [(1, .int (iI (4 * (A 0 47) + z13))), (0, .ref (q 0))]) hx hb dX12_thing_42 rfl hl (by decide) rfl (fun ls hl => ?_)
      refine lv_aload_n hx hb dX12_thing_43 rfl (lv_at hl 1 rfl) ?_
      refine va_get (D := (dC, dI)) (ci := 12) (v := .ref (q 20)) (C := RX12) (T := TX12) (N := 85) hx hb hts hiX12 hown hK hP 0 wm0 rfl 31 (by decide) (hts _ (List.mem_of_getElem? (i := 31) rfl)) (fun _ h9 => h9) rfl dX12_thing_44 ?_
      refine lv_iload_n hx hb dX12_thing_47 rfl (lv_at hl 0 rfl) ?_
      refine lv_aload_n hx hb dX12_thing_48 rfl (lv_at hl 1 rfl) ?_
      refine x_calll (As := []) (rest := [.int (iI (4 * (A 0 47) + z13)), .ref (q 20)]) ⟨hx, hb, hml, hown, hts⟩ (mc_X12_fresh l dC dI cB cI cJ cZ cQ q _ hI) (cwV 0 hts g_mc_X12_thing_1 rfl rfl rfl (by decide +kernel) ⟨Nat.le_of_ble_eq_true rfl, Nat.le_of_ble_eq_true rfl⟩) hK hDD hA0 hP hS 0 12 wm0 rfl rfl hl.1 (Nat.le_of_ble_eq_true rfl) dX12_thing_49 (fun z14 A15 H locs hw16 hP hS => ?_)
      obtain ⟨hI, hf17, hw16⟩ := hw16
      refine x_last hx hb hK hP hDD hS 20 2 wm20 rfl (by omega) (by decide) dX12_thing_52 ws20 (fun H locs hP hS => ?_)
      have hI := hI.st (j := 20) (i := (4 * (A 0 47) + z13).toNat) (v := z14) (show (-9223372036854775808 : Int) ≤ z14 ∧ z14 ≤ 9223372036854775807 from (by omega))
      refine lv_aload_n hx hb dX12_thing_53 rfl (lv_at hl 1 rfl) ?_
      refine va_get (D := (dC, dI)) (ci := 12) (v := .ref (q 21)) (C := RX12) (T := TX12) (N := 85) hx hb hts hiX12 hown hK hP 0 wm0 rfl 32 (by decide) (hts _ (List.mem_of_getElem? (i := 82) rfl)) (fun _ h9 => h9) rfl dX12_thing_54 ?_
      refine lv_iload_n hx hb dX12_thing_57 rfl (lv_at hl 0 rfl) ?_
      refine lv_aload_n hx hb dX12_thing_58 rfl (lv_at hl 1 rfl) ?_
      obtain ⟨A18, hA18⟩ : ∃ A18 : St, A18 = (stA A15 20 (4 * (A 0 47) + z13).toNat z14) := ⟨_, rfl⟩
      rw [← hA18] at hP hI
      refine x_calli (As := []) (rest := [.int (iI (4 * (A 0 47) + z13)), .ref (q 21)]) ⟨hx, hb, hml, hown, hts⟩ (mc_X12_within l dC dI cB cI cJ cZ cQ q _ hI) (cwV 0 hts g_mc_X12_thing_2 rfl rfl rfl (by decide +kernel) ⟨Nat.le_of_ble_eq_true rfl, Nat.le_of_ble_eq_true rfl⟩) hK hDD hA0 hP hS 0 12 wm0 rfl rfl hl.1 (Nat.le_of_ble_eq_true rfl) dX12_thing_59 (fun z19 A20 H locs hw21 hP hS => ?_)
      obtain ⟨hI, hf22, hw21⟩ := hw21
      refine x_iast hx hb hK hP hDD hS 21 1 wm21 rfl (by omega) (by decide) dX12_thing_62 ws21 (fun H locs hP hS => ?_)
      have hI := hI.st (j := 21) (i := (4 * (A 0 47) + z13).toNat) (v := z19) (show (0 : Int) ≤ z19 ∧ z19 ≤ 29 from (by omega))
      refine lv_aload_n hx hb dX12_thing_63 rfl (lv_at hl 1 rfl) ?_
      refine va_get (D := (dC, dI)) (ci := 12) (v := .int (iI (A20 0 8))) (C := RX12) (T := TX12) (N := 85) hx hb hts hiX12 hown hK hP 0 wm0 rfl 8 (by decide) (hts _ (List.mem_of_getElem? (i := 8) rfl)) (fun _ h9 => h9) rfl dX12_thing_64 ?_
      have r_A20_0_8 : (0 : Int) ≤ (A20 0 8) ∧ (A20 0 8) ≤ 5 := hI 0 8
      refine lv_if_ne (tgt := 83) hx hb dX12_thing_67 (by decide) (fun c23 => ?_) (fun c23 => ?_)
      · have c23 : ¬ (A20 0 8) = 0 := mt (i_eq0 (rb r_A20_0_8 (by decide) (by decide))).mpr c23
        exact RET _ _ _ _ _ ⟨hI, fr.st (fr.trans (fr_def hA18 (fr.st (fr.trans (fr.trans (fr.rf) hf11 rfl rfl) hf17 rfl rfl) (by decide) rfl)) hf22 rfl rfl) (by decide) rfl, trivial⟩ hP hS dX12_thing_83
      · have c23 : (A20 0 8) = 0 := (i_eq0 (rb r_A20_0_8 (by decide) (by decide))).mp c23
        refine lv_aload_n hx hb dX12_thing_70 rfl (lv_at hl 1 rfl) ?_
        refine va_get (D := (dC, dI)) (ci := 12) (v := .ref (q 19)) (C := RX12) (T := TX12) (N := 85) hx hb hts hiX12 hown hK hP 0 wm0 rfl 30 (by decide) (hts _ (List.mem_of_getElem? (i := 1) rfl)) (fun _ h9 => h9) rfl dX12_thing_71 ?_
        refine lv_aload_n hx hb dX12_thing_74 rfl (lv_at hl 1 rfl) ?_
        have e_A15_47 : A15 0 47 = (A 0 47) := (hf17.2 47 rfl).trans e_A9_47
        have e_A18_47 : A18 0 47 = (A 0 47) := by rw [hA18]; exact e_A15_47
        have e_A20_47 : A20 0 47 = (A 0 47) := (hf22.2 47 rfl).trans e_A18_47
        refine va_get (D := (dC, dI)) (ci := 12) (v := .int (iI (A20 0 47))) (C := RX12) (T := TX12) (N := 85) hx hb hts hiX12 hown hK hP 0 wm0 rfl 47 (by decide) (hts _ (List.mem_of_getElem? (i := 2) rfl)) (fun _ h9 => h9) rfl dX12_thing_75 ?_
        refine tp_i (y := iI (A 0 47)) (congrArg iI e_A20_47) ?_
        refine lv_dup2_11 hx hb dX12_thing_78 rfl rfl ?_
        have a_A15_19 : A15 19 = A 19 := (hf17.1 19 (by decide) rfl).trans a_A9_19
        have a_A18_19 : A18 19 = A 19 := by rw [hA18]; exact a_A15_19
        have a_A20_19 : A20 19 = A 19 := (hf22.1 19 (by decide) rfl).trans a_A18_19
        refine x_iald hx hb hK hP 19 1 wm19 rfl (by omega) (by decide) dX12_thing_79 (fun z24 hz24 => ?_)
        have rz24 : (0 : Int) ≤ z24 ∧ z24 ≤ 4 := by rw [hz24]; exact hI 19 _
        have hz24 : z24 = A 19 ((A 0 47)).toNat := hz24.trans (congrFun a_A20_19 _)
        have ez24 : z24 = z1 := hz24.trans hz1.symm
        refine lv_iconst (v := iI 1) hx hb dX12_thing_80 (by decide +kernel) ?_
        refine x_addv (v := z24 + 1) hx hb dX12_thing_81 (by omega) ?_
        refine x_iast hx hb hK hP hDD hS 19 1 wm19 rfl (by omega) (by decide) dX12_thing_82 ws19 (fun H locs hP hS => ?_)
        have hI := hI.st (j := 19) (i := ((A 0 47)).toNat) (v := z24 + 1) (show (0 : Int) ≤ z24 + 1 ∧ z24 + 1 ≤ 4 from (by omega))
        exact RET _ _ _ _ _ ⟨hI, fr.st (fr.st (fr.trans (fr_def hA18 (fr.st (fr.trans (fr.trans (fr.rf) hf11 rfl rfl) hf17 rfl rfl) (by decide) rfl)) hf22 rfl rfl) (by decide) rfl) (by decide) rfl, trivial⟩ hP hS dX12_thing_83
    · have c12 : z8 = 0 := (i_eq0 (rb rz8 (by decide) (by decide))).mp c12
      exact RET _ _ _ _ _ ⟨hI, fr.trans (fr.rf) hf11 rfl rfl, trivial⟩ hP hS dX12_thing_25
  refine lv_icmp_ne (tgt := 18) hx hb dX12_thing_11 (by decide) (fun c2 => ?_) (fun c2 => ?_)
  · have c2 : ¬ z1 = 4 := mt (i_eq (rb rz1 (by decide) (by decide)) ⟨by decide, by decide⟩).mpr c2
    refine lv_iconst (v := iI 0) hx hb dX12_thing_18 (by decide +kernel) ?_
    exact J19_3 0 _ _ _ (by omega) (by omega) hP hS (lv_sub hl [0] rfl)
  · have c2 : z1 = 4 := (i_eq (rb rz1 (by decide) (by decide)) ⟨by decide, by decide⟩).mp c2
    refine lv_iconst (v := iI 1) hx hb dX12_thing_14 (by decide +kernel) ?_
    refine lv_goto (tgt := 19) hx hb dX12_thing_15 (by decide) ?_
    exact J19_3 1 _ _ _ (by omega) (by omega) hP hS (lv_sub hl [0] rfl)
