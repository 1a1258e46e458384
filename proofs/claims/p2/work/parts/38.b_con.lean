def ws_mc_X12_door : List Cond := .code yX12_door cX12_door 3 none :: ([.fieldLink RX12 58 "StackKeysModel" "doors" "[I", .fieldLink RX12 155 "StackKeysModel" "in" "I", .methodLink RX12 394 yX12_counts, .instanceMethod yX12_counts, .selects RX12 yX12_counts yX12_counts, .initialized RX12, .code yX12_counts cX12_counts 2 (some .boolean), .fieldLink RX12 36 "StackKeysModel" "faultKind" "I", .fieldLink RX12 23 "StackKeysModel" "signAt" "I", .methodLink RX12 286 yX12_blame, .instanceMethod yX12_blame, .selects RX12 yX12_blame yX12_blame, .code yX12_blame cX12_blame 3 none, .fieldLink RX12 39 "StackKeysModel" "faultPlace" "I", .methodLink RX12 293 yX12_ahead, .instanceMethod yX12_ahead, .selects RX12 yX12_ahead yX12_ahead, .code yX12_ahead cX12_ahead 6 none, .fieldLink RX12 26 "StackKeysModel" "signEnd" "I", .fieldLink RX12 17 "StackKeysModel" "size" "I", .fieldLink RX12 7 "StackKeysModel" "tape" "[I", .fieldLink RX12 20 "StackKeysModel" "sign" "I", .methodLink RX12 279 yX12_isLetter, .static yX12_isLetter, .code yX12_isLetter cX12_isLetter 1 (some .boolean), .methodLink RX12 283 yX12_isDigit, .static yX12_isDigit, .code yX12_isDigit cX12_isDigit 1 (some .boolean), .fieldLink RX12 29 "StackKeysModel" "value" "I", .fieldLink RX12 32 "StackKeysModel" "word" "J", .fieldLink RX12 61 "StackKeysModel" "doorName" "[J", .methodLink RX12 398 yX12_fresh, .instanceMethod yX12_fresh, .selects RX12 yX12_fresh yX12_fresh, .code yX12_fresh cX12_fresh 3 (some .long), .methodLink RX12 387 yX12_isOwn, .instanceMethod yX12_isOwn, .selects RX12 yX12_isOwn yX12_isOwn, .code yX12_isOwn cX12_isOwn 3 (some .boolean), .constantLong RX12 296 (482854658917), .constantLong RX12 298 (1685024626), .constantLong RX12 300 (6451064), .constantLong RX12 302 (24948), .constantLong RX12 304 (7038329), .constantLong RX12 306 (26990), .constantLong RX12 308 (123581014175598), .constantLong RX12 310 (6840691), .constantLong RX12 312 (1936225652), .constantLong RX12 314 (25209), .constantLong RX12 316 (1819243380), .constantLong RX12 318 (499967946343), .constantLong RX12 320 (512735736947), .constantLong RX12 322 (1836413812), .constantLong RX12 324 (6447474), .constantLong RX12 326 (2003330414), .constantLong RX12 328 (28530), .constantLong RX12 330 (6385252), .constantLong RX12 332 (7237492), .constantLong RX12 334 (6384748), .constantLong RX12 336 (7825519), .constantLong RX12 338 (1936748404), .constantLong RX12 340 (1801812339), .constantLong RX12 342 (109317377451364), .constantLong RX12 344 (7170414), .constantLong RX12 346 (7168376), .methodLink RX12 390 yX12_named, .instanceMethod yX12_named, .selects RX12 yX12_named yX12_named, .code yX12_named cX12_named 6 (some .int), .fieldLink RX12 51 "StackKeysModel" "places" "[I", .methodLink RX12 348 yX12_nameOf, .instanceMethod yX12_nameOf, .selects RX12 yX12_nameOf yX12_nameOf, .code yX12_nameOf cX12_nameOf 4 (some .long), .fieldLink RX12 107 "StackKeysModel" "thingName" "[J", .fieldLink RX12 54 "StackKeysModel" "placeName" "[J", .fieldLink RX12 83 "StackKeysModel" "keyName" "[J", .fieldLink RX12 98 "StackKeysModel" "personName" "[J", .fieldLink RX12 80 "StackKeysModel" "keys" "[I", .fieldLink RX12 95 "StackKeysModel" "persons" "[I", .fieldLink RX12 104 "StackKeysModel" "things" "[I", .methodLink RX12 402 yX12_must_, .instanceMethod yX12_must_, .selects RX12 yX12_must_ yX12_must_, .code yX12_must_ cX12_must_ 3 none, .methodLink RX12 368 yX12_isWord, .instanceMethod yX12_isWord, .selects RX12 yX12_isWord yX12_isWord, .code yX12_isWord cX12_isWord 3 (some .boolean), .fieldLink RX12 64 "StackKeysModel" "doorOne" "[I", .methodLink RX12 406 yX12_asked, .instanceMethod yX12_asked, .selects RX12 yX12_asked yX12_asked, .code yX12_asked cX12_asked 3 (some .int), .methodLink RX12 409 yX12_bars, .instanceMethod yX12_bars, .selects RX12 yX12_bars yX12_bars, .code yX12_bars cX12_bars 3 none, .fieldLink RX12 67 "StackKeysModel" "doorTwo" "[I", .fieldLink RX12 70 "StackKeysModel" "isBox" "[Z", .fieldLink RX12 74 "StackKeysModel" "minutes" "[I", .methodLink RX12 411 yX12_number, .instanceMethod yX12_number, .selects RX12 yX12_number yX12_number, .code yX12_number cX12_number 4 (some .int), .methodLink RX12 352 yX12_is, .static yX12_is, .code yX12_is cX12_is 3 (some .boolean), .fieldLink RX12 77 "StackKeysModel" "isLost" "[Z"] ++ wsX120)
set_option maxRecDepth 20000 in
theorem g_mc_X12_door_0 : GoodIn ws_mc_X12_door (wsV RX12 394 RX12 yX12_counts ws_mc_X12_counts) := goodIn_r _ [3, 4, 5, 6, 7, 8, 9, 10, 11, 12, 6, 13, 14, 15, 16, 17, 18, 19, 20, 21, 22, 23, 24, 25, 26, 27, 28, 29, 30, 110, 111, 112, 113, 114, 115, 116, 117, 118, 119, 120, 121, 122, 123, 124, 125, 126, 127, 128, 129, 130, 131, 132, 133, 134, 135, 136, 137, 138, 139, 140, 141, 142, 143, 144, 145, 146, 147, 148, 149, 150, 151, 152, 153, 154, 155, 156, 157, 158, 159, 160, 161, 162, 163, 164, 165, 166, 167, 168, 169, 170, 171, 172, 173, 174, 175, 176, 177, 178, 179, 180, 181, 182, 183, 184, 185, 186, 187, 188, 189, 190, 191, 192, 193, 194] (by decide +kernel) (by decide +kernel)
set_option maxRecDepth 20000 in
theorem g_mc_X12_door_1 : GoodIn ws_mc_X12_door (wsV RX12 398 RX12 yX12_fresh ws_mc_X12_fresh) := goodIn_r _ [32, 33, 34, 6, 35, 8, 22, 30, 36, 37, 38, 6, 39, 40, 41, 42, 43, 44, 45, 46, 47, 48, 49, 50, 51, 52, 53, 54, 55, 56, 57, 58, 59, 60, 61, 62, 63, 64, 65, 9, 10, 11, 12, 13, 14, 66, 67, 68, 69, 70, 2, 71, 72, 73, 74, 75, 76, 31, 77, 78, 1, 79, 80, 81, 15, 16, 17, 18, 19, 20, 21, 23, 24, 25, 26, 27, 28, 29, 110, 111, 112, 113, 114, 115, 116, 117, 118, 119, 120, 121, 122, 123, 124, 125, 126, 127, 128, 129, 130, 131, 132, 133, 134, 135, 136, 137, 138, 139, 140, 141, 142, 143, 144, 145, 146, 147, 148, 149, 150, 151, 152, 153, 154, 155, 156, 157, 158, 159, 160, 161, 162, 163, 164, 165, 166, 167, 168, 169, 170, 171, 172, 173, 174, 175, 176, 177, 178, 179, 180, 181, 182, 183, 184, 185, 186, 187, 188, 189, 190, 191, 192, 193, 194] (by decide +kernel) (by decide +kernel)
set_option maxRecDepth 20000 in
theorem g_mc_X12_door_2 : GoodIn ws_mc_X12_door (wsV RX12 402 RX12 yX12_must_ ws_mc_X12_must_) := goodIn_r _ [82, 83, 84, 6, 85, 8, 86, 87, 88, 6, 89, 22, 30, 9, 10, 11, 12, 13, 14, 15, 16, 17, 18, 19, 20, 21, 23, 24, 25, 26, 27, 28, 29, 110, 111, 112, 113, 114, 115, 116, 117, 118, 119, 120, 121, 122, 123, 124, 125, 126, 127, 128, 129, 130, 131, 132, 133, 134, 135, 136, 137, 138, 139, 140, 141, 142, 143, 144, 145, 146, 147, 148, 149, 150, 151, 152, 153, 154, 155, 156, 157, 158, 159, 160, 161, 162, 163, 164, 165, 166, 167, 168, 169, 170, 171, 172, 173, 174, 175, 176, 177, 178, 179, 180, 181, 182, 183, 184, 185, 186, 187, 188, 189, 190, 191, 192, 193, 194] (by decide +kernel) (by decide +kernel)
set_option maxRecDepth 20000 in
theorem g_mc_X12_door_3 : GoodIn ws_mc_X12_door (wsV RX12 406 RX12 yX12_asked ws_mc_X12_asked) := goodIn_r _ [91, 92, 93, 6, 94, 8, 22, 30, 36, 37, 38, 6, 39, 40, 41, 42, 43, 44, 45, 46, 47, 48, 49, 50, 51, 52, 53, 54, 55, 56, 57, 58, 59, 60, 61, 62, 63, 64, 65, 9, 10, 11, 12, 13, 14, 66, 67, 68, 69, 70, 2, 71, 72, 73, 74, 75, 76, 31, 77, 78, 1, 79, 80, 81, 15, 16, 17, 18, 19, 20, 21, 23, 24, 25, 26, 27, 28, 29, 110, 111, 112, 113, 114, 115, 116, 117, 118, 119, 120, 121, 122, 123, 124, 125, 126, 127, 128, 129, 130, 131, 132, 133, 134, 135, 136, 137, 138, 139, 140, 141, 142, 143, 144, 145, 146, 147, 148, 149, 150, 151, 152, 153, 154, 155, 156, 157, 158, 159, 160, 161, 162, 163, 164, 165, 166, 167, 168, 169, 170, 171, 172, 173, 174, 175, 176, 177, 178, 179, 180, 181, 182, 183, 184, 185, 186, 187, 188, 189, 190, 191, 192, 193, 194] (by decide +kernel) (by decide +kernel)
set_option maxRecDepth 20000 in
theorem g_mc_X12_door_4 : GoodIn ws_mc_X12_door (wsV RX12 409 RX12 yX12_bars ws_mc_X12_bars) := goodIn_r _ [95, 96, 97, 6, 98, 8, 22, 30, 36, 37, 38, 6, 39, 40, 41, 42, 43, 44, 45, 46, 47, 48, 49, 50, 51, 52, 53, 54, 55, 56, 57, 58, 59, 60, 61, 62, 63, 64, 65, 66, 67, 68, 69, 70, 2, 71, 72, 73, 74, 75, 76, 31, 77, 78, 1, 79, 80, 81, 9, 10, 11, 12, 13, 14, 110, 111, 112, 113, 114, 115, 116, 117, 118, 119, 120, 121, 122, 123, 124, 125, 126, 127, 128, 129, 130, 131, 132, 133, 134, 135, 136, 137, 138, 139, 140, 141, 142, 143, 144, 145, 146, 147, 148, 149, 150, 151, 152, 153, 154, 155, 156, 157, 158, 159, 160, 161, 162, 163, 164, 165, 166, 167, 168, 169, 170, 171, 172, 173, 174, 175, 176, 177, 178, 179, 180, 181, 182, 183, 184, 185, 186, 187, 188, 189, 190, 191, 192, 193, 194] (by decide +kernel) (by decide +kernel)
set_option maxRecDepth 20000 in
theorem g_mc_X12_door_5 : GoodIn ws_mc_X12_door (wsV RX12 406 RX12 yX12_asked ws_mc_X12_asked) := goodIn_r _ [91, 92, 93, 6, 94, 8, 22, 30, 36, 37, 38, 6, 39, 40, 41, 42, 43, 44, 45, 46, 47, 48, 49, 50, 51, 52, 53, 54, 55, 56, 57, 58, 59, 60, 61, 62, 63, 64, 65, 9, 10, 11, 12, 13, 14, 66, 67, 68, 69, 70, 2, 71, 72, 73, 74, 75, 76, 31, 77, 78, 1, 79, 80, 81, 15, 16, 17, 18, 19, 20, 21, 23, 24, 25, 26, 27, 28, 29, 110, 111, 112, 113, 114, 115, 116, 117, 118, 119, 120, 121, 122, 123, 124, 125, 126, 127, 128, 129, 130, 131, 132, 133, 134, 135, 136, 137, 138, 139, 140, 141, 142, 143, 144, 145, 146, 147, 148, 149, 150, 151, 152, 153, 154, 155, 156, 157, 158, 159, 160, 161, 162, 163, 164, 165, 166, 167, 168, 169, 170, 171, 172, 173, 174, 175, 176, 177, 178, 179, 180, 181, 182, 183, 184, 185, 186, 187, 188, 189, 190, 191, 192, 193, 194] (by decide +kernel) (by decide +kernel)
set_option maxRecDepth 20000 in
theorem g_mc_X12_door_6 : GoodIn ws_mc_X12_door (wsV RX12 411 RX12 yX12_number ws_mc_X12_number) := goodIn_r _ [102, 103, 104, 6, 105, 8, 22, 9, 10, 11, 12, 6, 13, 14, 29, 106, 107, 108, 15, 16, 17, 18, 19, 20, 21, 23, 24, 25, 26, 27, 28, 30, 110, 111, 112, 113, 114, 115, 116, 117, 118, 119, 120, 121, 122, 123, 124, 125, 126, 127, 128, 129, 130, 131, 132, 133, 134, 135, 136, 137, 138, 139, 140, 141, 142, 143, 144, 145, 146, 147, 148, 149, 150, 151, 152, 153, 154, 155, 156, 157, 158, 159, 160, 161, 162, 163, 164, 165, 166, 167, 168, 169, 170, 171, 172, 173, 174, 175, 176, 177, 178, 179, 180, 181, 182, 183, 184, 185, 186, 187, 188, 189, 190, 191, 192, 193, 194] (by decide +kernel) (by decide +kernel)
set_option maxHeartbeats 4000000 in
set_option maxRecDepth 100000 in
theorem mc_X12_door (l : Launch) (dC : Nat → ClassId) (dI : Nat → Nat → Nat) (cB cI cJ cZ cQ : ClassId) (q : Nat → Nat) (A : St) (x1 : Int) (hI : IM A) (hx1 : (0 : Int) ≤ x1 ∧ x1 ≤ 1) : XMv l yX12_door ws_mc_X12_door ({ frames := 3, cells := 0, slots := 0, locals := 70 } : Room) (dC, dI) (tyA cB cI cJ cZ cQ) (WM cI cJ cZ q) A [.ref (q 0), .int (iI x1)] (fun u => IM u ∧ fr [4, 5, 6, 7, 8, 9, 10] [3, 4, 5, 6, 7, 8, 9] A u ∧ (True)) := by
  refine x_metv (cc := cX12_door) (maxL := 3) WM_adr (by decide +kernel) rfl (Nat.le_of_ble_eq_true rfl) (fun p e s m below meth c Q AS ls hx hb hml hown hts hK hDD hA0 hP hS hl RET => ?_)
  have hown : s.vm.findClass RX12 = some m.cls := hown
  have hl : lv_has ls 3 [(0, .ref (q 0)), (1, .int (iI x1))] := hl
  have hiX12 : ∀ w ∈ u_ws RX12 TX12 85, w ∈ ws_mc_X12_door := fun w h => List.mem_cons_of_mem _ (List.mem_append_right _ h)
  obtain ⟨H, hHe⟩ : ∃ H : Heap, H = s.heap := ⟨_, rfl⟩
  rw [← hHe] at hP
  have hS : va_S AS s.heap H [] := by rw [hHe]; exact hS
  suffices hgo : ∀ locs : List Loc, va_S AS s.heap H locs → W p l e (headSpec ws_mc_X12_door ({ frames := 3, cells := 0, slots := 0, locals := 70 } : Room)).room s m [.ref (q 0), .int (iI x1)].toArray below meth c H locs 0 0 Q (F0 m 0 ls []) by
    have := hgo [] hS
    rw [hHe] at this
    exact this
  clear hS hHe
  intro locs hS
  refine lv_aload_n hx hb dX12_door_0 rfl (lv_at hl 0 rfl) ?_
  refine lv_aload_n hx hb dX12_door_1 rfl (lv_at hl 0 rfl) ?_
  refine va_get (D := (dC, dI)) (ci := 12) (v := .ref (q 4)) (C := RX12) (T := TX12) (N := 85) hx hb hts hiX12 hown hK hP 0 wm0 rfl 15 (by decide) (hts _ (List.mem_of_getElem? (i := 1) rfl)) (fun _ h9 => h9) rfl dX12_door_2 ?_
  refine lv_aload_n hx hb dX12_door_5 rfl (lv_at hl 0 rfl) ?_
  refine va_get (D := (dC, dI)) (ci := 12) (v := .int (iI (A 0 47))) (C := RX12) (T := TX12) (N := 85) hx hb hts hiX12 hown hK hP 0 wm0 rfl 47 (by decide) (hts _ (List.mem_of_getElem? (i := 2) rfl)) (fun _ h9 => h9) rfl dX12_door_6 ?_
  have r_A_0_47 : (0 : Int) ≤ (A 0 47) ∧ (A 0 47) ≤ 1 := hI 0 47
  refine x_iald hx hb hK hP 4 1 wm4 rfl (by omega) (by decide) dX12_door_9 (fun z1 hz1 => ?_)
  have rz1 : (0 : Int) ≤ z1 ∧ z1 ≤ 10 := by rw [hz1]; exact hI 4 _
  have hz1 : z1 = A 4 ((A 0 47)).toNat := hz1
  refine lv_bipush (v := iI 10) hx hb dX12_door_10 (by decide +kernel) ?_
  have J20_3 : ∀ (z4 : Int) (H : Heap) (locs : List Loc) (ls : Array Slot), (0 ≤ z4 ∧ z4 ≤ 1) → ((z4 = 0 ∧ ¬ z1 = 10) ∨ (z4 = 1 ∧ z1 = 10)) → va_P (dC, dI) vwCl (WM cI cJ cZ q A) H → va_S AS s.heap H locs → lv_has ls 3 [(0, .ref (q 0)), (1, .int (iI x1))] → W p l e (headSpec ws_mc_X12_door ({ frames := 3, cells := 0, slots := 0, locals := 70 } : Room)).room s m [.ref (q 0), .int (iI x1)].toArray below meth c H locs 0 0 Q (F0 m 20 ls [.int (iI z4), .ref (q 0)]) := by
    intro z4 H locs ls f6 f7 hP hS hl
    refine x_calli (As := [.int (iI z4)]) (rest := []) ⟨hx, hb, hml, hown, hts⟩ (mc_X12_counts l dC dI cB cI cJ cZ cQ q _ z4 hI f6) (cwV 1 hts g_mc_X12_door_0 rfl rfl rfl (by decide +kernel) ⟨Nat.le_of_ble_eq_true rfl, Nat.le_of_ble_eq_true rfl⟩) hK hDD hA0 hP hS 0 12 wm0 rfl rfl hl.1 (Nat.le_of_ble_eq_true rfl) dX12_door_20 (fun z8 A9 H locs hw10 hP hS => ?_)
    obtain ⟨hI, hf11, hw10⟩ := hw10
    have r_A9_0_8 : (0 : Int) ≤ (A9 0 8) ∧ (A9 0 8) ≤ 5 := hI 0 8
    have rz8 : 0 ≤ z8 ∧ z8 ≤ 1 := hw10.1
    refine lv_if_ne (tgt := 27) hx hb dX12_door_23 (by decide) (fun c12 => ?_) (fun c12 => ?_)
    · have c12 : ¬ z8 = 0 := mt (i_eq0 (rb rz8 (by decide) (by decide))).mpr c12
      refine lv_bipush (v := iI 10) hx hb dX12_door_27 (by decide +kernel) ?_
      refine lv_aload_n hx hb dX12_door_29 rfl (lv_at hl 0 rfl) ?_
      have e_A9_47 : A9 0 47 = (A 0 47) := (hf11.2 47 rfl)
      refine va_get (D := (dC, dI)) (ci := 12) (v := .int (iI (A9 0 47))) (C := RX12) (T := TX12) (N := 85) hx hb hts hiX12 hown hK hP 0 wm0 rfl 47 (by decide) (hts _ (List.mem_of_getElem? (i := 2) rfl)) (fun _ h9 => h9) rfl dX12_door_30 ?_
      refine tp_i (y := iI (A 0 47)) (congrArg iI e_A9_47) ?_
      refine x_mulv (v := 10 * (A 0 47)) hx hb dX12_door_33 (by omega) ?_
      refine lv_aload_n hx hb dX12_door_34 rfl (lv_at hl 0 rfl) ?_
      refine va_get (D := (dC, dI)) (ci := 12) (v := .ref (q 4)) (C := RX12) (T := TX12) (N := 85) hx hb hts hiX12 hown hK hP 0 wm0 rfl 15 (by decide) (hts _ (List.mem_of_getElem? (i := 1) rfl)) (fun _ h9 => h9) rfl dX12_door_35 ?_
      refine lv_aload_n hx hb dX12_door_38 rfl (lv_at hl 0 rfl) ?_
      refine va_get (D := (dC, dI)) (ci := 12) (v := .int (iI (A9 0 47))) (C := RX12) (T := TX12) (N := 85) hx hb hts hiX12 hown hK hP 0 wm0 rfl 47 (by decide) (hts _ (List.mem_of_getElem? (i := 2) rfl)) (fun _ h9 => h9) rfl dX12_door_39 ?_
      refine tp_i (y := iI (A 0 47)) (congrArg iI e_A9_47) ?_
      have a_A9_4 : A9 4 = A 4 := (hf11.1 4 (by decide) rfl)
      refine x_iald hx hb hK hP 4 1 wm4 rfl (by omega) (by decide) dX12_door_42 (fun z13 hz13 => ?_)
      have rz13 : (0 : Int) ≤ z13 ∧ z13 ≤ 10 := by rw [hz13]; exact hI 4 _
      have hz13 : z13 = A 4 ((A 0 47)).toNat := hz13.trans (congrFun a_A9_4 _)
      have ez13 : z13 = z1 := hz13.trans hz1.symm
      refine x_addv (v := 10 * (A 0 47) + z13) hx hb dX12_door_43 (by omega) ?_
      refine lv_istore_n (lv' := [(2, .int (iI (10 * (A 0 47) + z13))), (0, .ref (q 0)), (1, .int (iI x1))]) hx hb dX12_door_44 rfl hl (by decide) rfl (fun ls hl => ?_)
      refine lv_aload_n hx hb dX12_door_45 rfl (lv_at hl 1 rfl) ?_
      refine va_get (D := (dC, dI)) (ci := 12) (v := .ref (q 5)) (C := RX12) (T := TX12) (N := 85) hx hb hts hiX12 hown hK hP 0 wm0 rfl 16 (by decide) (hts _ (List.mem_of_getElem? (i := 31) rfl)) (fun _ h9 => h9) rfl dX12_door_46 ?_
      refine lv_iload_n hx hb dX12_door_49 rfl (lv_at hl 0 rfl) ?_
      refine lv_aload_n hx hb dX12_door_50 rfl (lv_at hl 1 rfl) ?_
      refine x_calll (As := []) (rest := [.int (iI (10 * (A 0 47) + z13)), .ref (q 5)]) ⟨hx, hb, hml, hown, hts⟩ (mc_X12_fresh l dC dI cB cI cJ cZ cQ q _ hI) (cwV 0 hts g_mc_X12_door_1 rfl rfl rfl (by decide +kernel) ⟨Nat.le_of_ble_eq_true rfl, Nat.le_of_ble_eq_true rfl⟩) hK hDD hA0 hP hS 0 12 wm0 rfl rfl hl.1 (Nat.le_of_ble_eq_true rfl) dX12_door_51 (fun z14 A15 H locs hw16 hP hS => ?_)
      obtain ⟨hI, hf17, hw16⟩ := hw16
      refine x_last hx hb hK hP hDD hS 5 2 wm5 rfl (by omega) (by decide) dX12_door_54 ws5 (fun H locs hP hS => ?_)
      have hI := hI.st (j := 5) (i := (10 * (A 0 47) + z13).toNat) (v := z14) (show (-9223372036854775808 : Int) ≤ z14 ∧ z14 ≤ 9223372036854775807 from (by omega))
      refine lv_iload_n hx hb dX12_door_55 rfl (lv_at hl 2 rfl) ?_
      obtain ⟨A18, hA18⟩ : ∃ A18 : St, A18 = (stA A15 5 (10 * (A 0 47) + z13).toNat z14) := ⟨_, rfl⟩
      rw [← hA18] at hP hI
      have J66_20 : ∀ (A25 : St) (H : Heap) (locs : List Loc) (ls : Array Slot), IM A25 → fr [] [3, 4, 5, 6, 7, 8, 9] A18 A25 → va_P (dC, dI) vwCl (WM cI cJ cZ q A25) H → va_S AS s.heap H locs → lv_has ls 3 [(2, .int (iI (10 * (A 0 47) + z13))), (0, .ref (q 0)), (1, .int (iI x1))] → W p l e (headSpec ws_mc_X12_door ({ frames := 3, cells := 0, slots := 0, locals := 70 } : Room)).room s m [.ref (q 0), .int (iI x1)].toArray below meth c H locs 0 0 Q (F0 m 66 ls []) := by
        intro A25 H locs ls hI hj24 hP hS hl
        refine lv_aload_n hx hb dX12_door_66 rfl (lv_at hl 1 rfl) ?_
        refine va_get (D := (dC, dI)) (ci := 12) (v := .ref (q 6)) (C := RX12) (T := TX12) (N := 85) hx hb hts hiX12 hown hK hP 0 wm0 rfl 17 (by decide) (hts _ (List.mem_of_getElem? (i := 90) rfl)) (fun _ h9 => h9) rfl dX12_door_67 ?_
        refine lv_iload_n hx hb dX12_door_70 rfl (lv_at hl 0 rfl) ?_
        refine lv_aload_n hx hb dX12_door_71 rfl (lv_at hl 1 rfl) ?_
        refine lv_iconst (v := iI 0) hx hb dX12_door_72 (by decide +kernel) ?_
        refine x_calli (As := [.int (iI 0)]) (rest := [.int (iI (10 * (A 0 47) + z13)), .ref (q 6)]) ⟨hx, hb, hml, hown, hts⟩ (mc_X12_asked l dC dI cB cI cJ cZ cQ q _ 0 hI ⟨by decide, by decide⟩) (cwV 1 hts g_mc_X12_door_3 rfl rfl rfl (by decide +kernel) ⟨Nat.le_of_ble_eq_true rfl, Nat.le_of_ble_eq_true rfl⟩) hK hDD hA0 hP hS 0 12 wm0 rfl rfl hl.1 (Nat.le_of_ble_eq_true rfl) dX12_door_73 (fun z26 A27 H locs hw28 hP hS => ?_)
        obtain ⟨hI, hf29, hw28⟩ := hw28
        have hw28 : 0 ≤ z26 ∧ z26 ≤ 7 := ⟨hw28.1, hw28.2.2.1 rfl⟩
        refine x_iast hx hb hK hP hDD hS 6 1 wm6 rfl (by omega) (by decide) dX12_door_76 ws6 (fun H locs hP hS => ?_)
        have hI := hI.st (j := 6) (i := (10 * (A 0 47) + z13).toNat) (v := z26) (show (0 : Int) ≤ z26 ∧ z26 ≤ 7 from (by omega))
        refine lv_iload_n hx hb dX12_door_77 rfl (lv_at hl 2 rfl) ?_
        obtain ⟨A30, hA30⟩ : ∃ A30 : St, A30 = (stA A27 6 (10 * (A 0 47) + z13).toNat z26) := ⟨_, rfl⟩
        rw [← hA30] at hP hI
        have J92_32 : ∀ (A38 : St) (H : Heap) (locs : List Loc) (ls : Array Slot), IM A38 → fr [] [8, 9] A30 A38 → va_P (dC, dI) vwCl (WM cI cJ cZ q A38) H → va_S AS s.heap H locs → lv_has ls 3 [(2, .int (iI (10 * (A 0 47) + z13))), (0, .ref (q 0)), (1, .int (iI x1))] → W p l e (headSpec ws_mc_X12_door ({ frames := 3, cells := 0, slots := 0, locals := 70 } : Room)).room s m [.ref (q 0), .int (iI x1)].toArray below meth c H locs 0 0 Q (F0 m 92 ls []) := by
          intro A38 H locs ls hI hj37 hP hS hl
          refine lv_aload_n hx hb dX12_door_92 rfl (lv_at hl 1 rfl) ?_
          refine va_get (D := (dC, dI)) (ci := 12) (v := .ref (q 7)) (C := RX12) (T := TX12) (N := 85) hx hb hts hiX12 hown hK hP 0 wm0 rfl 18 (by decide) (hts _ (List.mem_of_getElem? (i := 99) rfl)) (fun _ h9 => h9) rfl dX12_door_93 ?_
          refine lv_iload_n hx hb dX12_door_96 rfl (lv_at hl 0 rfl) ?_
          refine lv_iload_n hx hb dX12_door_97 rfl (lv_at hl 2 rfl) ?_
          have J115_40 : ∀ (z46 : Int) (A48 : St) (H : Heap) (locs : List Loc) (ls : Array Slot), (0 ≤ z46 ∧ z46 ≤ 7) → IM A48 → fr [] [3, 4, 5, 6, 7, 8, 9] A38 A48 → va_P (dC, dI) vwCl (WM cI cJ cZ q A48) H → va_S AS s.heap H locs → lv_has ls 3 [(2, .int (iI (10 * (A 0 47) + z13))), (0, .ref (q 0)), (1, .int (iI x1))] → W p l e (headSpec ws_mc_X12_door ({ frames := 3, cells := 0, slots := 0, locals := 70 } : Room)).room s m [.ref (q 0), .int (iI x1)].toArray below meth c H locs 0 0 Q (F0 m 115 ls [.int (iI z46), .int (iI (10 * (A 0 47) + z13)), .ref (q 7)]) := by
            intro z46 A48 H locs ls f49 hI hj47 hP hS hl
            refine x_iast hx hb hK hP hDD hS 7 1 wm7 rfl (by omega) (by decide) dX12_door_115 ws7 (fun H locs hP hS => ?_)
            have hI := hI.st (j := 7) (i := (10 * (A 0 47) + z13).toNat) (v := z46) (show (0 : Int) ≤ z46 ∧ z46 ≤ 7 from (by omega))
            refine lv_aload_n hx hb dX12_door_116 rfl (lv_at hl 1 rfl) ?_
            refine va_get (D := (dC, dI)) (ci := 12) (v := .ref (q 8)) (C := RX12) (T := TX12) (N := 85) hx hb hts hiX12 hown hK hP 0 wm0 rfl 19 (by decide) (hts _ (List.mem_of_getElem? (i := 100) rfl)) (fun _ h9 => h9) rfl dX12_door_117 ?_
            refine lv_iload_n hx hb dX12_door_120 rfl (lv_at hl 0 rfl) ?_
            refine lv_iload_n hx hb dX12_door_121 rfl (lv_at hl 2 rfl) ?_
            refine x_zast hx hb hK hP hDD hS 8 3 wm8 rfl (by omega) (by decide) dX12_door_122 (by omega) ws8 (fun H locs hP hS => ?_)
            have hI := hI.st (j := 8) (i := (10 * (A 0 47) + z13).toNat) (v := x1) (show (0 : Int) ≤ x1 ∧ x1 ≤ 1 from (by omega))
            refine lv_aload_n hx hb dX12_door_123 rfl (lv_at hl 1 rfl) ?_
            refine va_get (D := (dC, dI)) (ci := 12) (v := .ref (q 9)) (C := RX12) (T := TX12) (N := 85) hx hb hts hiX12 hown hK hP 0 wm0 rfl 20 (by decide) (hts _ (List.mem_of_getElem? (i := 101) rfl)) (fun _ h9 => h9) rfl dX12_door_124 ?_
            refine lv_iload_n hx hb dX12_door_127 rfl (lv_at hl 0 rfl) ?_
            refine lv_iload_n hx hb dX12_door_128 rfl (lv_at hl 2 rfl) ?_
            obtain ⟨A50, hA50⟩ : ∃ A50 : St, A50 = (stA (stA A48 7 (10 * (A 0 47) + z13).toNat z46) 8 (10 * (A 0 47) + z13).toNat x1) := ⟨_, rfl⟩
            rw [← hA50] at hP hI
            have J143_52 : ∀ (z57 : Int) (A59 : St) (H : Heap) (locs : List Loc) (ls : Array Slot), (-2147483648 ≤ z57 ∧ z57 ≤ 2147483647) → IM A59 → fr [] [3, 4, 5, 6, 7, 8, 9] A50 A59 → va_P (dC, dI) vwCl (WM cI cJ cZ q A59) H → va_S AS s.heap H locs → lv_has ls 3 [(2, .int (iI (10 * (A 0 47) + z13))), (0, .ref (q 0)), (1, .int (iI x1))] → W p l e (headSpec ws_mc_X12_door ({ frames := 3, cells := 0, slots := 0, locals := 70 } : Room)).room s m [.ref (q 0), .int (iI x1)].toArray below meth c H locs 0 0 Q (F0 m 143 ls [.int (iI z57), .int (iI (10 * (A 0 47) + z13)), .ref (q 9)]) := by
              intro z57 A59 H locs ls f60 hI hj58 hP hS hl
              refine x_iast hx hb hK hP hDD hS 9 1 wm9 rfl (by omega) (by decide) dX12_door_143 ws9 (fun H locs hP hS => ?_)
              have hI := hI.st (j := 9) (i := (10 * (A 0 47) + z13).toNat) (v := z57) (show (-2147483648 : Int) ≤ z57 ∧ z57 ≤ 2147483647 from (by omega))
              refine lv_aload_n hx hb dX12_door_144 rfl (lv_at hl 1 rfl) ?_
              refine va_get (D := (dC, dI)) (ci := 12) (v := .ref (q 10)) (C := RX12) (T := TX12) (N := 85) hx hb hts hiX12 hown hK hP 0 wm0 rfl 21 (by decide) (hts _ (List.mem_of_getElem? (i := 109) rfl)) (fun _ h9 => h9) rfl dX12_door_145 ?_
              refine lv_iload_n hx hb dX12_door_148 rfl (lv_at hl 0 rfl) ?_
              refine lv_iconst (v := iI 0) hx hb dX12_door_149 (by decide +kernel) ?_
              refine x_zast hx hb hK hP hDD hS 10 3 wm10 rfl (by omega) (by decide) dX12_door_150 (by omega) ws10 (fun H locs hP hS => ?_)
              have hI := hI.st (j := 10) (i := (10 * (A 0 47) + z13).toNat) (v := 0) (show (0 : Int) ≤ 0 ∧ 0 ≤ 1 from (by omega))
              refine lv_aload_n hx hb dX12_door_151 rfl (lv_at hl 1 rfl) ?_
              refine va_get (D := (dC, dI)) (ci := 12) (v := .int (iI (A59 0 8))) (C := RX12) (T := TX12) (N := 85) hx hb hts hiX12 hown hK hP 0 wm0 rfl 8 (by decide) (hts _ (List.mem_of_getElem? (i := 8) rfl)) (fun _ h9 => h9) rfl dX12_door_152 ?_
              have r_A59_0_8 : (0 : Int) ≤ (A59 0 8) ∧ (A59 0 8) ≤ 5 := hI 0 8
              refine lv_if_ne (tgt := 171) hx hb dX12_door_155 (by decide) (fun c61 => ?_) (fun c61 => ?_)
              · have c61 : ¬ (A59 0 8) = 0 := mt (i_eq0 (rb r_A59_0_8 (by decide) (by decide))).mpr c61
                exact RET _ _ _ _ _ ⟨hI, fr.st (fr.st (fr.trans (fr_def hA50 (fr.st (fr.st (fr.trans (fr.trans (fr_def hA30 (fr.st (fr.trans (fr.trans (fr_def hA18 (fr.st (fr.trans (fr.trans (fr.rf) hf11 rfl rfl) hf17 rfl rfl) (by decide) rfl)) hj24 rfl rfl) hf29 rfl rfl) (by decide) rfl)) hj37 rfl rfl) hj47 rfl rfl) (by decide) rfl) (by decide) rfl)) hj58 rfl rfl) (by decide) rfl) (by decide) rfl, trivial⟩ hP hS dX12_door_171
              · have c61 : (A59 0 8) = 0 := (i_eq0 (rb r_A59_0_8 (by decide) (by decide))).mp c61
                refine lv_aload_n hx hb dX12_door_158 rfl (lv_at hl 1 rfl) ?_
                refine va_get (D := (dC, dI)) (ci := 12) (v := .ref (q 4)) (C := RX12) (T := TX12) (N := 85) hx hb hts hiX12 hown hK hP 0 wm0 rfl 15 (by decide) (hts _ (List.mem_of_getElem? (i := 1) rfl)) (fun _ h9 => h9) rfl dX12_door_159 ?_
                refine lv_aload_n hx hb dX12_door_162 rfl (lv_at hl 1 rfl) ?_
                have e_A15_47 : A15 0 47 = (A 0 47) := (hf17.2 47 rfl).trans e_A9_47
                have e_A18_47 : A18 0 47 = (A 0 47) := by rw [hA18]; exact e_A15_47
                have e_A25_47 : A25 0 47 = (A 0 47) := (hj24.2 47 rfl).trans e_A18_47
                have e_A27_47 : A27 0 47 = (A 0 47) := (hf29.2 47 rfl).trans e_A25_47
                have e_A30_47 : A30 0 47 = (A 0 47) := by rw [hA30]; exact e_A27_47
                have e_A38_47 : A38 0 47 = (A 0 47) := (hj37.2 47 rfl).trans e_A30_47
                have e_A48_47 : A48 0 47 = (A 0 47) := (hj47.2 47 rfl).trans e_A38_47
                have e_A50_47 : A50 0 47 = (A 0 47) := by rw [hA50]; exact e_A48_47
                have e_A59_47 : A59 0 47 = (A 0 47) := (hj58.2 47 rfl).trans e_A50_47
                refine va_get (D := (dC, dI)) (ci := 12) (v := .int (iI (A59 0 47))) (C := RX12) (T := TX12) (N := 85) hx hb hts hiX12 hown hK hP 0 wm0 rfl 47 (by decide) (hts _ (List.mem_of_getElem? (i := 2) rfl)) (fun _ h9 => h9) rfl dX12_door_163 ?_
                refine tp_i (y := iI (A 0 47)) (congrArg iI e_A59_47) ?_
                refine lv_dup2_11 hx hb dX12_door_166 rfl rfl ?_
                have a_A15_4 : A15 4 = A 4 := (hf17.1 4 (by decide) rfl).trans a_A9_4
                have a_A18_4 : A18 4 = A 4 := by rw [hA18]; exact a_A15_4
                have a_A25_4 : A25 4 = A 4 := (hj24.1 4 (by decide) rfl).trans a_A18_4
                have a_A27_4 : A27 4 = A 4 := (hf29.1 4 (by decide) rfl).trans a_A25_4
                have a_A30_4 : A30 4 = A 4 := by rw [hA30]; exact a_A27_4
                have a_A38_4 : A38 4 = A 4 := (hj37.1 4 (by decide) rfl).trans a_A30_4
                have a_A48_4 : A48 4 = A 4 := (hj47.1 4 (by decide) rfl).trans a_A38_4
                have a_A50_4 : A50 4 = A 4 := by rw [hA50]; exact a_A48_4
                have a_A59_4 : A59 4 = A 4 := (hj58.1 4 (by decide) rfl).trans a_A50_4
                refine x_iald hx hb hK hP 4 1 wm4 rfl (by omega) (by decide) dX12_door_167 (fun z62 hz62 => ?_)
                have rz62 : (0 : Int) ≤ z62 ∧ z62 ≤ 10 := by rw [hz62]; exact hI 4 _
                have hz62 : z62 = A 4 ((A 0 47)).toNat := hz62.trans (congrFun a_A59_4 _)
                have ez62 : z62 = z1 := hz62.trans hz1.symm
                refine lv_iconst (v := iI 1) hx hb dX12_door_168 (by decide +kernel) ?_
                refine x_addv (v := z62 + 1) hx hb dX12_door_169 (by omega) ?_
                refine x_iast hx hb hK hP hDD hS 4 1 wm4 rfl (by omega) (by decide) dX12_door_170 ws4 (fun H locs hP hS => ?_)
                have hI := hI.st (j := 4) (i := ((A 0 47)).toNat) (v := z62 + 1) (show (0 : Int) ≤ z62 + 1 ∧ z62 + 1 ≤ 10 from (by omega))
                exact RET _ _ _ _ _ ⟨hI, fr.st (fr.st (fr.st (fr.trans (fr_def hA50 (fr.st (fr.st (fr.trans (fr.trans (fr_def hA30 (fr.st (fr.trans (fr.trans (fr_def hA18 (fr.st (fr.trans (fr.trans (fr.rf) hf11 rfl rfl) hf17 rfl rfl) (by decide) rfl)) hj24 rfl rfl) hf29 rfl rfl) (by decide) rfl)) hj37 rfl rfl) hj47 rfl rfl) (by decide) rfl) (by decide) rfl)) hj58 rfl rfl) (by decide) rfl) (by decide) rfl) (by decide) rfl, trivial⟩ hP hS dX12_door_171
            refine lv_if_eq (tgt := 136) hx hb dX12_door_129 (by decide) (fun c51 => ?_) (fun c51 => ?_)
            · have c51 : x1 = 0 := (i_eq0 (rb hx1 (by decide) (by decide))).mp c51
              refine lv_aload_n hx hb dX12_door_136 rfl (lv_at hl 1 rfl) ?_
              refine lv_iconst (v := iI 1) hx hb dX12_door_137 (by decide +kernel) ?_
              refine lv_bipush (v := iI 99) hx hb dX12_door_138 (by decide +kernel) ?_
              refine x_calli (As := [.int (iI 1), .int (iI 99)]) (rest := [.int (iI (10 * (A 0 47) + z13)), .ref (q 9)]) ⟨hx, hb, hml, hown, hts⟩ (mc_X12_number l dC dI cB cI cJ cZ cQ q _ 1 99 hI ⟨by decide, by decide⟩ ⟨by decide, by decide⟩) (cwV 2 hts g_mc_X12_door_6 rfl rfl rfl (by decide +kernel) ⟨Nat.le_of_ble_eq_true rfl, Nat.le_of_ble_eq_true rfl⟩) hK hDD hA0 hP hS 0 12 wm0 rfl rfl hl.1 (Nat.le_of_ble_eq_true rfl) dX12_door_140 (fun z53 A54 H locs hw55 hP hS => ?_)
              obtain ⟨hI, hf56, hw55⟩ := hw55
              exact J143_52 z53 _ _ _ _ (by omega) hI (fr.trans (fr.rf) hf56 rfl rfl) hP hS (lv_sub hl [0, 1, 2] rfl)
            · have c51 : ¬ x1 = 0 := mt (i_eq0 (rb hx1 (by decide) (by decide))).mpr c51
              refine lv_iconst (v := iI 0) hx hb dX12_door_132 (by decide +kernel) ?_
              refine lv_goto (tgt := 143) hx hb dX12_door_133 (by decide) ?_
              exact J143_52 0 _ _ _ _ (by omega) hI (fr.rf) hP hS (lv_sub hl [0, 1, 2] rfl)
          refine lv_if_eq (tgt := 110) hx hb dX12_door_98 (by decide) (fun c39 => ?_) (fun c39 => ?_)
          · have c39 : x1 = 0 := (i_eq0 (rb hx1 (by decide) (by decide))).mp c39
            refine lv_aload_n hx hb dX12_door_110 rfl (lv_at hl 1 rfl) ?_
            refine lv_iconst (v := iI 0) hx hb dX12_door_111 (by decide +kernel) ?_
            refine x_calli (As := [.int (iI 0)]) (rest := [.int (iI (10 * (A 0 47) + z13)), .ref (q 7)]) ⟨hx, hb, hml, hown, hts⟩ (mc_X12_asked l dC dI cB cI cJ cZ cQ q _ 0 hI ⟨by decide, by decide⟩) (cwV 1 hts g_mc_X12_door_5 rfl rfl rfl (by decide +kernel) ⟨Nat.le_of_ble_eq_true rfl, Nat.le_of_ble_eq_true rfl⟩) hK hDD hA0 hP hS 0 12 wm0 rfl rfl hl.1 (Nat.le_of_ble_eq_true rfl) dX12_door_112 (fun z41 A42 H locs hw43 hP hS => ?_)
            obtain ⟨hI, hf44, hw43⟩ := hw43
            have hw43 : 0 ≤ z41 ∧ z41 ≤ 7 := ⟨hw43.1, hw43.2.2.1 rfl⟩
            exact J115_40 z41 _ _ _ _ (by omega) hI (fr.trans (fr.rf) hf44 rfl rfl) hP hS (lv_sub hl [0, 1, 2] rfl)
          · have c39 : ¬ x1 = 0 := mt (i_eq0 (rb hx1 (by decide) (by decide))).mpr c39
            refine lv_aload_n hx hb dX12_door_101 rfl (lv_at hl 1 rfl) ?_
            refine va_get (D := (dC, dI)) (ci := 12) (v := .ref (q 6)) (C := RX12) (T := TX12) (N := 85) hx hb hts hiX12 hown hK hP 0 wm0 rfl 17 (by decide) (hts _ (List.mem_of_getElem? (i := 90) rfl)) (fun _ h9 => h9) rfl dX12_door_102 ?_
            refine lv_iload_n hx hb dX12_door_105 rfl (lv_at hl 0 rfl) ?_
            refine x_iald hx hb hK hP 6 1 wm6 rfl (by omega) (by decide) dX12_door_106 (fun z45 hz45 => ?_)
            have rz45 : (0 : Int) ≤ z45 ∧ z45 ≤ 7 := by rw [hz45]; exact hI 6 _
            clear hz45
            refine lv_goto (tgt := 115) hx hb dX12_door_107 (by decide) ?_
            exact J115_40 z45 _ _ _ _ (by omega) hI (fr.rf) hP hS (lv_sub hl [0, 1, 2] rfl)
        refine lv_if_ne (tgt := 92) hx hb dX12_door_78 (by decide) (fun c31 => ?_) (fun c31 => ?_)
        · have c31 : ¬ x1 = 0 := mt (i_eq0 (rb hx1 (by decide) (by decide))).mpr c31
          exact J92_32 _ _ _ _ hI (fr.rf) hP hS (lv_sub hl [0, 1, 2] rfl)
        · have c31 : x1 = 0 := (i_eq0 (rb hx1 (by decide) (by decide))).mp c31
          refine lv_aload_n hx hb dX12_door_81 rfl (lv_at hl 1 rfl) ?_
          refine lv_iconst (v := iI 0) hx hb dX12_door_82 (by decide +kernel) ?_
          refine lv_aload_n hx hb dX12_door_83 rfl (lv_at hl 1 rfl) ?_
          refine va_get (D := (dC, dI)) (ci := 12) (v := .ref (q 6)) (C := RX12) (T := TX12) (N := 85) hx hb hts hiX12 hown hK hP 0 wm0 rfl 17 (by decide) (hts _ (List.mem_of_getElem? (i := 90) rfl)) (fun _ h9 => h9) rfl dX12_door_84 ?_
          refine lv_iload_n hx hb dX12_door_87 rfl (lv_at hl 0 rfl) ?_
          refine x_iald hx hb hK hP 6 1 wm6 rfl (by omega) (by decide) dX12_door_88 (fun z33 hz33 => ?_)
          have rz33 : (0 : Int) ≤ z33 ∧ z33 ≤ 7 := by rw [hz33]; exact hI 6 _
          clear hz33
          refine x_callv (As := [.int (iI 0), .int (iI z33)]) (rest := []) ⟨hx, hb, hml, hown, hts⟩ (mc_X12_bars l dC dI cB cI cJ cZ cQ q _ 0 z33 hI ⟨by decide, by decide⟩ (rb rz33 (by decide) (by decide))) (cwV 2 hts g_mc_X12_door_4 rfl rfl rfl (by decide +kernel) ⟨Nat.le_of_ble_eq_true rfl, Nat.le_of_ble_eq_true rfl⟩) hK hDD hA0 hP hS 0 12 wm0 rfl rfl hl.1 (Nat.le_of_ble_eq_true rfl) dX12_door_89 (fun A34 H locs hw35 hP hS => ?_)
          obtain ⟨hI, hf36, hw35⟩ := hw35
          clear hw35
          exact J92_32 _ _ _ _ hI (fr.trans (fr.rf) hf36 rfl rfl) hP hS (lv_sub hl [0, 1, 2] rfl)
      refine lv_if_eq (tgt := 66) hx hb dX12_door_56 (by decide) (fun c19 => ?_) (fun c19 => ?_)
      · have c19 : x1 = 0 := (i_eq0 (rb hx1 (by decide) (by decide))).mp c19
        exact J66_20 _ _ _ _ hI (fr.rf) hP hS (lv_sub hl [0, 1, 2] rfl)
      · have c19 : ¬ x1 = 0 := mt (i_eq0 (rb hx1 (by decide) (by decide))).mpr c19
        refine lv_aload_n hx hb dX12_door_59 rfl (lv_at hl 1 rfl) ?_
        refine lv_ldc2 (v := 24948) hx hb hown (hts _ (List.mem_of_getElem? (i := 43) rfl)) dX12_door_60 ?_
        refine tp_l (y := jI 24948) (by decide +kernel) ?_
        refine x_callv (As := [.long (jI 24948)]) (rest := []) ⟨hx, hb, hml, hown, hts⟩ (mc_X12_must_ l dC dI cB cI cJ cZ cQ q _ 24948 hI ⟨by decide, by decide⟩) (cwV 1 hts g_mc_X12_door_2 rfl rfl rfl (by decide +kernel) ⟨Nat.le_of_ble_eq_true rfl, Nat.le_of_ble_eq_true rfl⟩) hK hDD hA0 hP hS 0 12 wm0 rfl rfl hl.1 (Nat.le_of_ble_eq_true rfl) dX12_door_63 (fun A21 H locs hw22 hP hS => ?_)
        obtain ⟨hI, hf23, hw22⟩ := hw22
        clear hw22
        exact J66_20 _ _ _ _ hI (fr.trans (fr.rf) hf23 rfl rfl) hP hS (lv_sub hl [0, 1, 2] rfl)
    · have c12 : z8 = 0 := (i_eq0 (rb rz8 (by decide) (by decide))).mp c12
      exact RET _ _ _ _ _ ⟨hI, fr.trans (fr.rf) hf11 rfl rfl, trivial⟩ hP hS dX12_door_26
  refine lv_icmp_ne (tgt := 19) hx hb dX12_door_12 (by decide) (fun c2 => ?_) (fun c2 => ?_)
  · have c2 : ¬ z1 = 10 := mt (i_eq (rb rz1 (by decide) (by decide)) ⟨by decide, by decide⟩).mpr c2
    refine lv_iconst (v := iI 0) hx hb dX12_door_19 (by decide +kernel) ?_
    exact J20_3 0 _ _ _ (by omega) (by omega) hP hS (lv_sub hl [0, 1] rfl)
  · have c2 : z1 = 10 := (i_eq (rb rz1 (by decide) (by decide)) ⟨by decide, by decide⟩).mp c2
    refine lv_iconst (v := iI 1) hx hb dX12_door_15 (by decide +kernel) ?_
    refine lv_goto (tgt := 20) hx hb dX12_door_16 (by decide) ?_
    exact J20_3 1 _ _ _ (by omega) (by omega) hP hS (lv_sub hl [0, 1] rfl)

def ws_mc_X12_key : List Cond := .code yX12_key cX12_key 2 none :: ([.fieldLink RX12 80 "StackKeysModel" "keys" "[I", .fieldLink RX12 155 "StackKeysModel" "in" "I", .methodLink RX12 394 yX12_counts, .instanceMethod yX12_counts, .selects RX12 yX12_counts yX12_counts, .initialized RX12, .code yX12_counts cX12_counts 2 (some .boolean), .fieldLink RX12 36 "StackKeysModel" "faultKind" "I", .fieldLink RX12 23 "StackKeysModel" "signAt" "I", .methodLink RX12 286 yX12_blame, .instanceMethod yX12_blame, .selects RX12 yX12_blame yX12_blame, .code yX12_blame cX12_blame 3 none, .fieldLink RX12 39 "StackKeysModel" "faultPlace" "I", .methodLink RX12 293 yX12_ahead, .instanceMethod yX12_ahead, .selects RX12 yX12_ahead yX12_ahead, .code yX12_ahead cX12_ahead 6 none, .fieldLink RX12 26 "StackKeysModel" "signEnd" "I", .fieldLink RX12 17 "StackKeysModel" "size" "I", .fieldLink RX12 7 "StackKeysModel" "tape" "[I", .fieldLink RX12 20 "StackKeysModel" "sign" "I", .methodLink RX12 279 yX12_isLetter, .static yX12_isLetter, .code yX12_isLetter cX12_isLetter 1 (some .boolean), .methodLink RX12 283 yX12_isDigit, .static yX12_isDigit, .code yX12_isDigit cX12_isDigit 1 (some .boolean), .fieldLink RX12 29 "StackKeysModel" "value" "I", .fieldLink RX12 32 "StackKeysModel" "word" "J", .fieldLink RX12 83 "StackKeysModel" "keyName" "[J", .methodLink RX12 398 yX12_fresh, .instanceMethod yX12_fresh, .selects RX12 yX12_fresh yX12_fresh, .code yX12_fresh cX12_fresh 3 (some .long), .methodLink RX12 387 yX12_isOwn, .instanceMethod yX12_isOwn, .selects RX12 yX12_isOwn yX12_isOwn, .code yX12_isOwn cX12_isOwn 3 (some .boolean), .constantLong RX12 296 (482854658917), .constantLong RX12 298 (1685024626), .constantLong RX12 300 (6451064), .constantLong RX12 302 (24948), .constantLong RX12 304 (7038329), .constantLong RX12 306 (26990), .constantLong RX12 308 (123581014175598), .constantLong RX12 310 (6840691), .constantLong RX12 312 (1936225652), .constantLong RX12 314 (25209), .constantLong RX12 316 (1819243380), .constantLong RX12 318 (499967946343), .constantLong RX12 320 (512735736947), .constantLong RX12 322 (1836413812), .constantLong RX12 324 (6447474), .constantLong RX12 326 (2003330414), .constantLong RX12 328 (28530), .constantLong RX12 330 (6385252), .constantLong RX12 332 (7237492), .constantLong RX12 334 (6384748), .constantLong RX12 336 (7825519), .constantLong RX12 338 (1936748404), .constantLong RX12 340 (1801812339), .constantLong RX12 342 (109317377451364), .constantLong RX12 344 (7170414), .constantLong RX12 346 (7168376), .methodLink RX12 390 yX12_named, .instanceMethod yX12_named, .selects RX12 yX12_named yX12_named, .code yX12_named cX12_named 6 (some .int), .fieldLink RX12 51 "StackKeysModel" "places" "[I", .methodLink RX12 348 yX12_nameOf, .instanceMethod yX12_nameOf, .selects RX12 yX12_nameOf yX12_nameOf, .code yX12_nameOf cX12_nameOf 4 (some .long), .fieldLink RX12 107 "StackKeysModel" "thingName" "[J", .fieldLink RX12 54 "StackKeysModel" "placeName" "[J", .fieldLink RX12 61 "StackKeysModel" "doorName" "[J", .fieldLink RX12 98 "StackKeysModel" "personName" "[J", .fieldLink RX12 58 "StackKeysModel" "doors" "[I", .fieldLink RX12 95 "StackKeysModel" "persons" "[I", .fieldLink RX12 104 "StackKeysModel" "things" "[I", .fieldLink RX12 86 "StackKeysModel" "keyAt" "[I", .methodLink RX12 415 yX12_within, .instanceMethod yX12_within, .selects RX12 yX12_within yX12_within, .code yX12_within cX12_within 2 (some .int), .methodLink RX12 402 yX12_must_, .instanceMethod yX12_must_, .selects RX12 yX12_must_ yX12_must_, .code yX12_must_ cX12_must_ 3 none, .methodLink RX12 368 yX12_isWord, .instanceMethod yX12_isWord, .selects RX12 yX12_isWord yX12_isWord, .code yX12_isWord cX12_isWord 3 (some .boolean), .fieldLink RX12 70 "StackKeysModel" "isBox" "[Z", .methodLink RX12 406 yX12_asked, .instanceMethod yX12_asked, .selects RX12 yX12_asked yX12_asked, .code yX12_asked cX12_asked 3 (some .int), .fieldLink RX12 89 "StackKeysModel" "rowMany" "[I"] ++ wsX120)
set_option maxRecDepth 20000 in
theorem g_mc_X12_key_0 : GoodIn ws_mc_X12_key (wsV RX12 394 RX12 yX12_counts ws_mc_X12_counts) := goodIn_r _ [3, 4, 5, 6, 7, 8, 9, 10, 11, 12, 6, 13, 14, 15, 16, 17, 18, 19, 20, 21, 22, 23, 24, 25, 26, 27, 28, 29, 30, 101, 102, 103, 104, 105, 106, 107, 108, 109, 110, 111, 112, 113, 114, 115, 116, 117, 118, 119, 120, 121, 122, 123, 124, 125, 126, 127, 128, 129, 130, 131, 132, 133, 134, 135, 136, 137, 138, 139, 140, 141, 142, 143, 144, 145, 146, 147, 148, 149, 150, 151, 152, 153, 154, 155, 156, 157, 158, 159, 160, 161, 162, 163, 164, 165, 166, 167, 168, 169, 170, 171, 172, 173, 174, 175, 176, 177, 178, 179, 180, 181, 182, 183, 184, 185] (by decide +kernel) (by decide +kernel)
set_option maxRecDepth 20000 in
theorem g_mc_X12_key_1 : GoodIn ws_mc_X12_key (wsV RX12 398 RX12 yX12_fresh ws_mc_X12_fresh) := goodIn_r _ [32, 33, 34, 6, 35, 8, 22, 30, 36, 37, 38, 6, 39, 40, 41, 42, 43, 44, 45, 46, 47, 48, 49, 50, 51, 52, 53, 54, 55, 56, 57, 58, 59, 60, 61, 62, 63, 64, 65, 9, 10, 11, 12, 13, 14, 66, 67, 68, 69, 70, 2, 71, 72, 73, 74, 75, 76, 77, 31, 78, 79, 1, 80, 81, 15, 16, 17, 18, 19, 20, 21, 23, 24, 25, 26, 27, 28, 29, 101, 102, 103, 104, 105, 106, 107, 108, 109, 110, 111, 112, 113, 114, 115, 116, 117, 118, 119, 120, 121, 122, 123, 124, 125, 126, 127, 128, 129, 130, 131, 132, 133, 134, 135, 136, 137, 138, 139, 140, 141, 142, 143, 144, 145, 146, 147, 148, 149, 150, 151, 152, 153, 154, 155, 156, 157, 158, 159, 160, 161, 162, 163, 164, 165, 166, 167, 168, 169, 170, 171, 172, 173, 174, 175, 176, 177, 178, 179, 180, 181, 182, 183, 184, 185] (by decide +kernel) (by decide +kernel)
set_option maxRecDepth 20000 in
theorem g_mc_X12_key_2 : GoodIn ws_mc_X12_key (wsV RX12 415 RX12 yX12_within ws_mc_X12_within) := goodIn_r _ [83, 84, 85, 6, 86, 45, 87, 88, 89, 6, 90, 8, 91, 92, 93, 94, 22, 30, 9, 10, 11, 12, 13, 14, 15, 16, 17, 18, 19, 20, 21, 23, 24, 25, 26, 27, 28, 29, 36, 37, 38, 39, 40, 41, 42, 43, 44, 46, 47, 48, 49, 50, 51, 52, 53, 54, 55, 56, 57, 58, 59, 60, 61, 62, 63, 64, 65, 66, 67, 68, 69, 70, 2, 71, 72, 73, 74, 75, 76, 77, 31, 78, 79, 1, 80, 81, 95, 96, 97, 98, 99, 101, 102, 103, 104, 105, 106, 107, 108, 109, 110, 111, 112, 113, 114, 115, 116, 117, 118, 119, 120, 121, 122, 123, 124, 125, 126, 127, 128, 129, 130, 131, 132, 133, 134, 135, 136, 137, 138, 139, 140, 141, 142, 143, 144, 145, 146, 147, 148, 149, 150, 151, 152, 153, 154, 155, 156, 157, 158, 159, 160, 161, 162, 163, 164, 165, 166, 167, 168, 169, 170, 171, 172, 173, 174, 175, 176, 177, 178, 179, 180, 181, 182, 183, 184, 185] (by decide +kernel) (by decide +kernel)
set_option maxHeartbeats 4000000 in
set_option maxRecDepth 100000 in
theorem mc_X12_key (l : Launch) (dC : Nat → ClassId) (dI : Nat → Nat → Nat) (cB cI cJ cZ cQ : ClassId) (q : Nat → Nat) (A : St) (hI : IM A) : XMv l yX12_key ws_mc_X12_key ({ frames := 4, cells := 0, slots := 0, locals := 91 } : Room) (dC, dI) (tyA cB cI cJ cZ cQ) (WM cI cJ cZ q) A [.ref (q 0)] (fun u => IM u ∧ fr [11, 12, 13, 14] [3, 4, 5, 6, 7, 8, 9] A u ∧ (True)) := by
  refine x_metv (cc := cX12_key) (maxL := 2) WM_adr (by decide +kernel) rfl (Nat.le_of_ble_eq_true rfl) (fun p e s m below meth c Q AS ls hx hb hml hown hts hK hDD hA0 hP hS hl RET => ?_)
  have hown : s.vm.findClass RX12 = some m.cls := hown
  have hl : lv_has ls 2 [(0, .ref (q 0))] := hl
  have hiX12 : ∀ w ∈ u_ws RX12 TX12 85, w ∈ ws_mc_X12_key := fun w h => List.mem_cons_of_mem _ (List.mem_append_right _ h)
  obtain ⟨H, hHe⟩ : ∃ H : Heap, H = s.heap := ⟨_, rfl⟩
  rw [← hHe] at hP
  have hS : va_S AS s.heap H [] := by rw [hHe]; exact hS
  suffices hgo : ∀ locs : List Loc, va_S AS s.heap H locs → W p l e (headSpec ws_mc_X12_key ({ frames := 4, cells := 0, slots := 0, locals := 91 } : Room)).room s m [.ref (q 0)].toArray below meth c H locs 0 0 Q (F0 m 0 ls []) by
    have := hgo [] hS
    rw [hHe] at this
    exact this
  clear hS hHe
  intro locs hS
  refine lv_aload_n hx hb dX12_key_0 rfl (lv_at hl 0 rfl) ?_
  refine lv_aload_n hx hb dX12_key_1 rfl (lv_at hl 0 rfl) ?_
  refine va_get (D := (dC, dI)) (ci := 12) (v := .ref (q 11)) (C := RX12) (T := TX12) (N := 85) hx hb hts hiX12 hown hK hP 0 wm0 rfl 22 (by decide) (hts _ (List.mem_of_getElem? (i := 1) rfl)) (fun _ h9 => h9) rfl dX12_key_2 ?_
  refine lv_aload_n hx hb dX12_key_5 rfl (lv_at hl 0 rfl) ?_
  refine va_get (D := (dC, dI)) (ci := 12) (v := .int (iI (A 0 47))) (C := RX12) (T := TX12) (N := 85) hx hb hts hiX12 hown hK hP 0 wm0 rfl 47 (by decide) (hts _ (List.mem_of_getElem? (i := 2) rfl)) (fun _ h9 => h9) rfl dX12_key_6 ?_
  have r_A_0_47 : (0 : Int) ≤ (A 0 47) ∧ (A 0 47) ≤ 1 := hI 0 47
  refine x_iald hx hb hK hP 11 1 wm11 rfl (by omega) (by decide) dX12_key_9 (fun z1 hz1 => ?_)
  have rz1 : (0 : Int) ≤ z1 ∧ z1 ≤ 4 := by rw [hz1]; exact hI 11 _
  have hz1 : z1 = A 11 ((A 0 47)).toNat := hz1
  refine lv_iconst (v := iI 4) hx hb dX12_key_10 (by decide +kernel) ?_
  have J19_3 : ∀ (z4 : Int) (H : Heap) (locs : List Loc) (ls : Array Slot), (0 ≤ z4 ∧ z4 ≤ 1) → ((z4 = 0 ∧ ¬ z1 = 4) ∨ (z4 = 1 ∧ z1 = 4)) → va_P (dC, dI) vwCl (WM cI cJ cZ q A) H → va_S AS s.heap H locs → lv_has ls 2 [(0, .ref (q 0))] → W p l e (headSpec ws_mc_X12_key ({ frames := 4, cells := 0, slots := 0, locals := 91 } : Room)).room s m [.ref (q 0)].toArray below meth c H locs 0 0 Q (F0 m 19 ls [.int (iI z4), .ref (q 0)]) := by
    intro z4 H locs ls f6 f7 hP hS hl
    refine x_calli (As := [.int (iI z4)]) (rest := []) ⟨hx, hb, hml, hown, hts⟩ (mc_X12_counts l dC dI cB cI cJ cZ cQ q _ z4 hI f6) (cwV 1 hts g_mc_X12_key_0 rfl rfl rfl (by decide +kernel) ⟨Nat.le_of_ble_eq_true rfl, Nat.le_of_ble_eq_true rfl⟩) hK hDD hA0 hP hS 0 12 wm0 rfl rfl hl.1 (Nat.le_of_ble_eq_true rfl) dX12_key_19 (fun z8 A9 H locs hw10 hP hS => ?_)
    obtain ⟨hI, hf11, hw10⟩ := hw10
    have r_A9_0_8 : (0 : Int) ≤ (A9 0 8) ∧ (A9 0 8) ≤ 5 := hI 0 8
    have rz8 : 0 ≤ z8 ∧ z8 ≤ 1 := hw10.1
    refine lv_if_ne (tgt := 26) hx hb dX12_key_22 (by decide) (fun c12 => ?_) (fun c12 => ?_)
    · have c12 : ¬ z8 = 0 := mt (i_eq0 (rb rz8 (by decide) (by decide))).mpr c12
      refine lv_iconst (v := iI 4) hx hb dX12_key_26 (by decide +kernel) ?_
      refine lv_aload_n hx hb dX12_key_27 rfl (lv_at hl 0 rfl) ?_
      have e_A9_47 : A9 0 47 = (A 0 47) := (hf11.2 47 rfl)
      refine va_get (D := (dC, dI)) (ci := 12) (v := .int (iI (A9 0 47))) (C := RX12) (T := TX12) (N := 85) hx hb hts hiX12 hown hK hP 0 wm0 rfl 47 (by decide) (hts _ (List.mem_of_getElem? (i := 2) rfl)) (fun _ h9 => h9) rfl dX12_key_28 ?_
      refine tp_i (y := iI (A 0 47)) (congrArg iI e_A9_47) ?_
      refine x_mulv (v := 4 * (A 0 47)) hx hb dX12_key_31 (by omega) ?_
      refine lv_aload_n hx hb dX12_key_32 rfl (lv_at hl 0 rfl) ?_
      refine va_get (D := (dC, dI)) (ci := 12) (v := .ref (q 11)) (C := RX12) (T := TX12) (N := 85) hx hb hts hiX12 hown hK hP 0 wm0 rfl 22 (by decide) (hts _ (List.mem_of_getElem? (i := 1) rfl)) (fun _ h9 => h9) rfl dX12_key_33 ?_
      refine lv_aload_n hx hb dX12_key_36 rfl (lv_at hl 0 rfl) ?_
      refine va_get (D := (dC, dI)) (ci := 12) (v := .int (iI (A9 0 47))) (C := RX12) (T := TX12) (N := 85) hx hb hts hiX12 hown hK hP 0 wm0 rfl 47 (by decide) (hts _ (List.mem_of_getElem? (i := 2) rfl)) (fun _ h9 => h9) rfl dX12_key_37 ?_
      refine tp_i (y := iI (A 0 47)) (congrArg iI e_A9_47) ?_
      have a_A9_11 : A9 11 = A 11 := (hf11.1 11 (by decide) rfl)
      refine x_iald hx hb hK hP 11 1 wm11 rfl (by omega) (by decide) dX12_key_40 (fun z13 hz13 => ?_)
      have rz13 : (0 : Int) ≤ z13 ∧ z13 ≤ 4 := by rw [hz13]; exact hI 11 _
      have hz13 : z13 = A 11 ((A 0 47)).toNat := hz13.trans (congrFun a_A9_11 _)
      have ez13 : z13 = z1 := hz13.trans hz1.symm
      refine x_addv (v := 4 * (A 0 47) + z13) hx hb dX12_key_41 (by omega) ?_
      refine lv_istore_n (lv' := [(1, .int (iI (4 * (A 0 47) + z13))), (0, .ref (q 0))]) hx hb dX12_key_42 rfl hl (by decide) rfl (fun ls hl => ?_)
      refine lv_aload_n hx hb dX12_key_43 rfl (lv_at hl 1 rfl) ?_
      refine va_get (D := (dC, dI)) (ci := 12) (v := .ref (q 12)) (C := RX12) (T := TX12) (N := 85) hx hb hts hiX12 hown hK hP 0 wm0 rfl 23 (by decide) (hts _ (List.mem_of_getElem? (i := 31) rfl)) (fun _ h9 => h9) rfl dX12_key_44 ?_
      refine lv_iload_n hx hb dX12_key_47 rfl (lv_at hl 0 rfl) ?_
      refine lv_aload_n hx hb dX12_key_48 rfl (lv_at hl 1 rfl) ?_
      refine x_calll (As := []) (rest := [.int (iI (4 * (A 0 47) + z13)), .ref (q 12)]) ⟨hx, hb, hml, hown, hts⟩ (mc_X12_fresh l dC dI cB cI cJ cZ cQ q _ hI) (cwV 0 hts g_mc_X12_key_1 rfl rfl rfl (by decide +kernel) ⟨Nat.le_of_ble_eq_true rfl, Nat.le_of_ble_eq_true rfl⟩) hK hDD hA0 hP hS 0 12 wm0 rfl rfl hl.1 (Nat.le_of_ble_eq_true rfl) dX12_key_49 (fun z14 A15 H locs hw16 hP hS => ?_)
      obtain ⟨hI, hf17, hw16⟩ := hw16
      refine x_last hx hb hK hP hDD hS 12 2 wm12 rfl (by omega) (by decide) dX12_key_52 ws12 (fun H locs hP hS => ?_)
      have hI := hI.st (j := 12) (i := (4 * (A 0 47) + z13).toNat) (v := z14) (show (-9223372036854775808 : Int) ≤ z14 ∧ z14 ≤ 9223372036854775807 from (by omega))
      refine lv_aload_n hx hb dX12_key_53 rfl (lv_at hl 1 rfl) ?_
      refine va_get (D := (dC, dI)) (ci := 12) (v := .ref (q 13)) (C := RX12) (T := TX12) (N := 85) hx hb hts hiX12 hown hK hP 0 wm0 rfl 24 (by decide) (hts _ (List.mem_of_getElem? (i := 82) rfl)) (fun _ h9 => h9) rfl dX12_key_54 ?_
      refine lv_iload_n hx hb dX12_key_57 rfl (lv_at hl 0 rfl) ?_
      refine lv_aload_n hx hb dX12_key_58 rfl (lv_at hl 1 rfl) ?_
      obtain ⟨A18, hA18⟩ : ∃ A18 : St, A18 = (stA A15 12 (4 * (A 0 47) + z13).toNat z14) := ⟨_, rfl⟩
      rw [← hA18] at hP hI
      refine x_calli (As := []) (rest := [.int (iI (4 * (A 0 47) + z13)), .ref (q 13)]) ⟨hx, hb, hml, hown, hts⟩ (mc_X12_within l dC dI cB cI cJ cZ cQ q _ hI) (cwV 0 hts g_mc_X12_key_2 rfl rfl rfl (by decide +kernel) ⟨Nat.le_of_ble_eq_true rfl, Nat.le_of_ble_eq_true rfl⟩) hK hDD hA0 hP hS 0 12 wm0 rfl rfl hl.1 (Nat.le_of_ble_eq_true rfl) dX12_key_59 (fun z19 A20 H locs hw21 hP hS => ?_)
      obtain ⟨hI, hf22, hw21⟩ := hw21
      refine x_iast hx hb hK hP hDD hS 13 1 wm13 rfl (by omega) (by decide) dX12_key_62 ws13 (fun H locs hP hS => ?_)
      have hI := hI.st (j := 13) (i := (4 * (A 0 47) + z13).toNat) (v := z19) (show (0 : Int) ≤ z19 ∧ z19 ≤ 40 from (by omega))
      refine lv_aload_n hx hb dX12_key_63 rfl (lv_at hl 1 rfl) ?_
      refine va_get (D := (dC, dI)) (ci := 12) (v := .ref (q 14)) (C := RX12) (T := TX12) (N := 85) hx hb hts hiX12 hown hK hP 0 wm0 rfl 25 (by decide) (hts _ (List.mem_of_getElem? (i := 100) rfl)) (fun _ h9 => h9) rfl dX12_key_64 ?_
      refine lv_iload_n hx hb dX12_key_67 rfl (lv_at hl 0 rfl) ?_
      refine lv_iconst (v := iI 0) hx hb dX12_key_68 (by decide +kernel) ?_
      refine x_iast hx hb hK hP hDD hS 14 1 wm14 rfl (by omega) (by decide) dX12_key_69 ws14 (fun H locs hP hS => ?_)
      have hI := hI.st (j := 14) (i := (4 * (A 0 47) + z13).toNat) (v := 0) (show (0 : Int) ≤ 0 ∧ 0 ≤ 6 from (by omega))
      refine lv_aload_n hx hb dX12_key_70 rfl (lv_at hl 1 rfl) ?_
      refine va_get (D := (dC, dI)) (ci := 12) (v := .int (iI (A20 0 8))) (C := RX12) (T := TX12) (N := 85) hx hb hts hiX12 hown hK hP 0 wm0 rfl 8 (by decide) (hts _ (List.mem_of_getElem? (i := 8) rfl)) (fun _ h9 => h9) rfl dX12_key_71 ?_
      have r_A20_0_8 : (0 : Int) ≤ (A20 0 8) ∧ (A20 0 8) ≤ 5 := hI 0 8
      refine lv_if_ne (tgt := 90) hx hb dX12_key_74 (by decide) (fun c23 => ?_) (fun c23 => ?_)
      · have c23 : ¬ (A20 0 8) = 0 := mt (i_eq0 (rb r_A20_0_8 (by decide) (by decide))).mpr c23
        exact RET _ _ _ _ _ ⟨hI, fr.st (fr.st (fr.trans (fr_def hA18 (fr.st (fr.trans (fr.trans (fr.rf) hf11 rfl rfl) hf17 rfl rfl) (by decide) rfl)) hf22 rfl rfl) (by decide) rfl) (by decide) rfl, trivial⟩ hP hS dX12_key_90
      · have c23 : (A20 0 8) = 0 := (i_eq0 (rb r_A20_0_8 (by decide) (by decide))).mp c23
        refine lv_aload_n hx hb dX12_key_77 rfl (lv_at hl 1 rfl) ?_
        refine va_get (D := (dC, dI)) (ci := 12) (v := .ref (q 11)) (C := RX12) (T := TX12) (N := 85) hx hb hts hiX12 hown hK hP 0 wm0 rfl 22 (by decide) (hts _ (List.mem_of_getElem? (i := 1) rfl)) (fun _ h9 => h9) rfl dX12_key_78 ?_
        refine lv_aload_n hx hb dX12_key_81 rfl (lv_at hl 1 rfl) ?_
        have e_A15_47 : A15 0 47 = (A 0 47) := (hf17.2 47 rfl).trans e_A9_47
        have e_A18_47 : A18 0 47 = (A 0 47) := by rw [hA18]; exact e_A15_47
        have e_A20_47 : A20 0 47 = (A 0 47) := (hf22.2 47 rfl).trans e_A18_47
        refine va_get (D := (dC, dI)) (ci := 12) (v := .int (iI (A20 0 47))) (C := RX12) (T := TX12) (N := 85) hx hb hts hiX12 hown hK hP 0 wm0 rfl 47 (by decide) (hts _ (List.mem_of_getElem? (i := 2) rfl)) (fun _ h9 => h9) rfl dX12_key_82 ?_
        refine tp_i (y := iI (A 0 47)) (congrArg iI e_A20_47) ?_
        refine lv_dup2_11 hx hb dX12_key_85 rfl rfl ?_
        have a_A15_11 : A15 11 = A 11 := (hf17.1 11 (by decide) rfl).trans a_A9_11
        have a_A18_11 : A18 11 = A 11 := by rw [hA18]; exact a_A15_11
        have a_A20_11 : A20 11 = A 11 := (hf22.1 11 (by decide) rfl).trans a_A18_11
        refine x_iald hx hb hK hP 11 1 wm11 rfl (by omega) (by decide) dX12_key_86 (fun z24 hz24 => ?_)
        have rz24 : (0 : Int) ≤ z24 ∧ z24 ≤ 4 := by rw [hz24]; exact hI 11 _
        have hz24 : z24 = A 11 ((A 0 47)).toNat := hz24.trans (congrFun a_A20_11 _)
        have ez24 : z24 = z1 := hz24.trans hz1.symm
        refine lv_iconst (v := iI 1) hx hb dX12_key_87 (by decide +kernel) ?_
        refine x_addv (v := z24 + 1) hx hb dX12_key_88 (by omega) ?_
        refine x_iast hx hb hK hP hDD hS 11 1 wm11 rfl (by omega) (by decide) dX12_key_89 ws11 (fun H locs hP hS => ?_)
        have hI := hI.st (j := 11) (i := ((A 0 47)).toNat) (v := z24 + 1) (show (0 : Int) ≤ z24 + 1 ∧ z24 + 1 ≤ 4 from (by omega))
        exact RET _ _ _ _ _ ⟨hI, fr.st (fr.st (fr.st (fr.trans (fr_def hA18 (fr.st (fr.trans (fr.trans (fr.rf) hf11 rfl rfl) hf17 rfl rfl) (by decide) rfl)) hf22 rfl rfl) (by decide) rfl) (by decide) rfl) (by decide) rfl, trivial⟩ hP hS dX12_key_90
    · have c12 : z8 = 0 := (i_eq0 (rb rz8 (by decide) (by decide))).mp c12
      exact RET _ _ _ _ _ ⟨hI, fr.trans (fr.rf) hf11 rfl rfl, trivial⟩ hP hS dX12_key_25
  refine lv_icmp_ne (tgt := 18) hx hb dX12_key_11 (by decide) (fun c2 => ?_) (fun c2 => ?_)
  · have c2 : ¬ z1 = 4 := mt (i_eq (rb rz1 (by decide) (by decide)) ⟨by decide, by decide⟩).mpr c2
    refine lv_iconst (v := iI 0) hx hb dX12_key_18 (by decide +kernel) ?_
    exact J19_3 0 _ _ _ (by omega) (by omega) hP hS (lv_sub hl [0] rfl)
  · have c2 : z1 = 4 := (i_eq (rb rz1 (by decide) (by decide)) ⟨by decide, by decide⟩).mp c2
    refine lv_iconst (v := iI 1) hx hb dX12_key_14 (by decide +kernel) ?_
    refine lv_goto (tgt := 19) hx hb dX12_key_15 (by decide) ?_
    exact J19_3 1 _ _ _ (by omega) (by omega) hP hS (lv_sub hl [0] rfl)

def ws_mc_X12_person : List Cond := .code yX12_person cX12_person 2 none :: ([.fieldLink RX12 95 "StackKeysModel" "persons" "[I", .fieldLink RX12 155 "StackKeysModel" "in" "I", .methodLink RX12 394 yX12_counts, .instanceMethod yX12_counts, .selects RX12 yX12_counts yX12_counts, .initialized RX12, .code yX12_counts cX12_counts 2 (some .boolean), .fieldLink RX12 36 "StackKeysModel" "faultKind" "I", .fieldLink RX12 23 "StackKeysModel" "signAt" "I", .methodLink RX12 286 yX12_blame, .instanceMethod yX12_blame, .selects RX12 yX12_blame yX12_blame, .code yX12_blame cX12_blame 3 none, .fieldLink RX12 39 "StackKeysModel" "faultPlace" "I", .methodLink RX12 293 yX12_ahead, .instanceMethod yX12_ahead, .selects RX12 yX12_ahead yX12_ahead, .code yX12_ahead cX12_ahead 6 none, .fieldLink RX12 26 "StackKeysModel" "signEnd" "I", .fieldLink RX12 17 "StackKeysModel" "size" "I", .fieldLink RX12 7 "StackKeysModel" "tape" "[I", .fieldLink RX12 20 "StackKeysModel" "sign" "I", .methodLink RX12 279 yX12_isLetter, .static yX12_isLetter, .code yX12_isLetter cX12_isLetter 1 (some .boolean), .methodLink RX12 283 yX12_isDigit, .static yX12_isDigit, .code yX12_isDigit cX12_isDigit 1 (some .boolean), .fieldLink RX12 29 "StackKeysModel" "value" "I", .fieldLink RX12 32 "StackKeysModel" "word" "J", .fieldLink RX12 98 "StackKeysModel" "personName" "[J", .methodLink RX12 398 yX12_fresh, .instanceMethod yX12_fresh, .selects RX12 yX12_fresh yX12_fresh, .code yX12_fresh cX12_fresh 3 (some .long), .methodLink RX12 387 yX12_isOwn, .instanceMethod yX12_isOwn, .selects RX12 yX12_isOwn yX12_isOwn, .code yX12_isOwn cX12_isOwn 3 (some .boolean), .constantLong RX12 296 (482854658917), .constantLong RX12 298 (1685024626), .constantLong RX12 300 (6451064), .constantLong RX12 302 (24948), .constantLong RX12 304 (7038329), .constantLong RX12 306 (26990), .constantLong RX12 308 (123581014175598), .constantLong RX12 310 (6840691), .constantLong RX12 312 (1936225652), .constantLong RX12 314 (25209), .constantLong RX12 316 (1819243380), .constantLong RX12 318 (499967946343), .constantLong RX12 320 (512735736947), .constantLong RX12 322 (1836413812), .constantLong RX12 324 (6447474), .constantLong RX12 326 (2003330414), .constantLong RX12 328 (28530), .constantLong RX12 330 (6385252), .constantLong RX12 332 (7237492), .constantLong RX12 334 (6384748), .constantLong RX12 336 (7825519), .constantLong RX12 338 (1936748404), .constantLong RX12 340 (1801812339), .constantLong RX12 342 (109317377451364), .constantLong RX12 344 (7170414), .constantLong RX12 346 (7168376), .methodLink RX12 390 yX12_named, .instanceMethod yX12_named, .selects RX12 yX12_named yX12_named, .code yX12_named cX12_named 6 (some .int), .fieldLink RX12 51 "StackKeysModel" "places" "[I", .methodLink RX12 348 yX12_nameOf, .instanceMethod yX12_nameOf, .selects RX12 yX12_nameOf yX12_nameOf, .code yX12_nameOf cX12_nameOf 4 (some .long), .fieldLink RX12 107 "StackKeysModel" "thingName" "[J", .fieldLink RX12 54 "StackKeysModel" "placeName" "[J", .fieldLink RX12 61 "StackKeysModel" "doorName" "[J", .fieldLink RX12 83 "StackKeysModel" "keyName" "[J", .fieldLink RX12 58 "StackKeysModel" "doors" "[I", .fieldLink RX12 80 "StackKeysModel" "keys" "[I", .fieldLink RX12 104 "StackKeysModel" "things" "[I", .methodLink RX12 402 yX12_must_, .instanceMethod yX12_must_, .selects RX12 yX12_must_ yX12_must_, .code yX12_must_ cX12_must_ 3 none, .methodLink RX12 368 yX12_isWord, .instanceMethod yX12_isWord, .selects RX12 yX12_isWord yX12_isWord, .code yX12_isWord cX12_isWord 3 (some .boolean), .fieldLink RX12 101 "StackKeysModel" "personAt" "[I", .methodLink RX12 406 yX12_asked, .instanceMethod yX12_asked, .selects RX12 yX12_asked yX12_asked, .code yX12_asked cX12_asked 3 (some .int)] ++ wsX120)
set_option maxRecDepth 20000 in
theorem g_mc_X12_person_0 : GoodIn ws_mc_X12_person (wsV RX12 394 RX12 yX12_counts ws_mc_X12_counts) := goodIn_r _ [3, 4, 5, 6, 7, 8, 9, 10, 11, 12, 6, 13, 14, 15, 16, 17, 18, 19, 20, 21, 22, 23, 24, 25, 26, 27, 28, 29, 30, 95, 96, 97, 98, 99, 100, 101, 102, 103, 104, 105, 106, 107, 108, 109, 110, 111, 112, 113, 114, 115, 116, 117, 118, 119, 120, 121, 122, 123, 124, 125, 126, 127, 128, 129, 130, 131, 132, 133, 134, 135, 136, 137, 138, 139, 140, 141, 142, 143, 144, 145, 146, 147, 148, 149, 150, 151, 152, 153, 154, 155, 156, 157, 158, 159, 160, 161, 162, 163, 164, 165, 166, 167, 168, 169, 170, 171, 172, 173, 174, 175, 176, 177, 178, 179] (by decide +kernel) (by decide +kernel)
set_option maxRecDepth 20000 in
theorem g_mc_X12_person_1 : GoodIn ws_mc_X12_person (wsV RX12 398 RX12 yX12_fresh ws_mc_X12_fresh) := goodIn_r _ [32, 33, 34, 6, 35, 8, 22, 30, 36, 37, 38, 6, 39, 40, 41, 42, 43, 44, 45, 46, 47, 48, 49, 50, 51, 52, 53, 54, 55, 56, 57, 58, 59, 60, 61, 62, 63, 64, 65, 9, 10, 11, 12, 13, 14, 66, 67, 68, 69, 70, 2, 71, 72, 73, 74, 75, 76, 77, 78, 31, 79, 80, 1, 81, 15, 16, 17, 18, 19, 20, 21, 23, 24, 25, 26, 27, 28, 29, 95, 96, 97, 98, 99, 100, 101, 102, 103, 104, 105, 106, 107, 108, 109, 110, 111, 112, 113, 114, 115, 116, 117, 118, 119, 120, 121, 122, 123, 124, 125, 126, 127, 128, 129, 130, 131, 132, 133, 134, 135, 136, 137, 138, 139, 140, 141, 142, 143, 144, 145, 146, 147, 148, 149, 150, 151, 152, 153, 154, 155, 156, 157, 158, 159, 160, 161, 162, 163, 164, 165, 166, 167, 168, 169, 170, 171, 172, 173, 174, 175, 176, 177, 178, 179] (by decide +kernel) (by decide +kernel)
set_option maxRecDepth 20000 in
theorem g_mc_X12_person_2 : GoodIn ws_mc_X12_person (wsV RX12 402 RX12 yX12_must_ ws_mc_X12_must_) := goodIn_r _ [82, 83, 84, 6, 85, 8, 86, 87, 88, 6, 89, 22, 30, 9, 10, 11, 12, 13, 14, 15, 16, 17, 18, 19, 20, 21, 23, 24, 25, 26, 27, 28, 29, 95, 96, 97, 98, 99, 100, 101, 102, 103, 104, 105, 106, 107, 108, 109, 110, 111, 112, 113, 114, 115, 116, 117, 118, 119, 120, 121, 122, 123, 124, 125, 126, 127, 128, 129, 130, 131, 132, 133, 134, 135, 136, 137, 138, 139, 140, 141, 142, 143, 144, 145, 146, 147, 148, 149, 150, 151, 152, 153, 154, 155, 156, 157, 158, 159, 160, 161, 162, 163, 164, 165, 166, 167, 168, 169, 170, 171, 172, 173, 174, 175, 176, 177, 178, 179] (by decide +kernel) (by decide +kernel)
set_option maxRecDepth 20000 in
theorem g_mc_X12_person_3 : GoodIn ws_mc_X12_person (wsV RX12 406 RX12 yX12_asked ws_mc_X12_asked) := goodIn_r _ [91, 92, 93, 6, 94, 8, 22, 30, 36, 37, 38, 6, 39, 40, 41, 42, 43, 44, 45, 46, 47, 48, 49, 50, 51, 52, 53, 54, 55, 56, 57, 58, 59, 60, 61, 62, 63, 64, 65, 9, 10, 11, 12, 13, 14, 66, 67, 68, 69, 70, 2, 71, 72, 73, 74, 75, 76, 77, 78, 31, 79, 80, 1, 81, 15, 16, 17, 18, 19, 20, 21, 23, 24, 25, 26, 27, 28, 29, 95, 96, 97, 98, 99, 100, 101, 102, 103, 104, 105, 106, 107, 108, 109, 110, 111, 112, 113, 114, 115, 116, 117, 118, 119, 120, 121, 122, 123, 124, 125, 126, 127, 128, 129, 130, 131, 132, 133, 134, 135, 136, 137, 138, 139, 140, 141, 142, 143, 144, 145, 146, 147, 148, 149, 150, 151, 152, 153, 154, 155, 156, 157, 158, 159, 160, 161, 162, 163, 164, 165, 166, 167, 168, 169, 170, 171, 172, 173, 174, 175, 176, 177, 178, 179] (by decide +kernel) (by decide +kernel)
set_option maxHeartbeats 4000000 in
set_option maxRecDepth 100000 in
theorem mc_X12_person (l : Launch) (dC : Nat → ClassId) (dI : Nat → Nat → Nat) (cB cI cJ cZ cQ : ClassId) (q : Nat → Nat) (A : St) (hI : IM A) : XMv l yX12_person ws_mc_X12_person ({ frames := 3, cells := 0, slots := 0, locals := 70 } : Room) (dC, dI) (tyA cB cI cJ cZ cQ) (WM cI cJ cZ q) A [.ref (q 0)] (fun u => IM u ∧ fr [16, 17, 18] [3, 4, 5, 6, 7, 8, 9] A u ∧ (True)) := by
  refine x_metv (cc := cX12_person) (maxL := 2) WM_adr (by decide +kernel) rfl (Nat.le_of_ble_eq_true rfl) (fun p e s m below meth c Q AS ls hx hb hml hown hts hK hDD hA0 hP hS hl RET => ?_)
  have hown : s.vm.findClass RX12 = some m.cls := hown
  have hl : lv_has ls 2 [(0, .ref (q 0))] := hl
  have hiX12 : ∀ w ∈ u_ws RX12 TX12 85, w ∈ ws_mc_X12_person := fun w h => List.mem_cons_of_mem _ (List.mem_append_right _ h)
  obtain ⟨H, hHe⟩ : ∃ H : Heap, H = s.heap := ⟨_, rfl⟩
  rw [← hHe] at hP
  have hS : va_S AS s.heap H [] := by rw [hHe]; exact hS
  suffices hgo : ∀ locs : List Loc, va_S AS s.heap H locs → W p l e (headSpec ws_mc_X12_person ({ frames := 3, cells := 0, slots := 0, locals := 70 } : Room)).room s m [.ref (q 0)].toArray below meth c H locs 0 0 Q (F0 m 0 ls []) by
    have := hgo [] hS
    rw [hHe] at this
    exact this
  clear hS hHe
  intro locs hS
  refine lv_aload_n hx hb dX12_person_0 rfl (lv_at hl 0 rfl) ?_
  refine lv_aload_n hx hb dX12_person_1 rfl (lv_at hl 0 rfl) ?_
  refine va_get (D := (dC, dI)) (ci := 12) (v := .ref (q 16)) (C := RX12) (T := TX12) (N := 85) hx hb hts hiX12 hown hK hP 0 wm0 rfl 27 (by decide) (hts _ (List.mem_of_getElem? (i := 1) rfl)) (fun _ h9 => h9) rfl dX12_person_2 ?_
  refine lv_aload_n hx hb dX12_person_5 rfl (lv_at hl 0 rfl) ?_
  refine va_get (D := (dC, dI)) (ci := 12) (v := .int (iI (A 0 47))) (C := RX12) (T := TX12) (N := 85) hx hb hts hiX12 hown hK hP 0 wm0 rfl 47 (by decide) (hts _ (List.mem_of_getElem? (i := 2) rfl)) (fun _ h9 => h9) rfl dX12_person_6 ?_
  have r_A_0_47 : (0 : Int) ≤ (A 0 47) ∧ (A 0 47) ≤ 1 := hI 0 47
  refine x_iald hx hb hK hP 16 1 wm16 rfl (by omega) (by decide) dX12_person_9 (fun z1 hz1 => ?_)
  have rz1 : (0 : Int) ≤ z1 ∧ z1 ≤ 3 := by rw [hz1]; exact hI 16 _
  have hz1 : z1 = A 16 ((A 0 47)).toNat := hz1
  refine lv_iconst (v := iI 3) hx hb dX12_person_10 (by decide +kernel) ?_
  have J19_3 : ∀ (z4 : Int) (H : Heap) (locs : List Loc) (ls : Array Slot), (0 ≤ z4 ∧ z4 ≤ 1) → ((z4 = 0 ∧ ¬ z1 = 3) ∨ (z4 = 1 ∧ z1 = 3)) → va_P (dC, dI) vwCl (WM cI cJ cZ q A) H → va_S AS s.heap H locs → lv_has ls 2 [(0, .ref (q 0))] → W p l e (headSpec ws_mc_X12_person ({ frames := 3, cells := 0, slots := 0, locals := 70 } : Room)).room s m [.ref (q 0)].toArray below meth c H locs 0 0 Q (F0 m 19 ls [.int (iI z4), .ref (q 0)]) := by
    intro z4 H locs ls f6 f7 hP hS hl
    refine x_calli (As := [.int (iI z4)]) (rest := []) ⟨hx, hb, hml, hown, hts⟩ (mc_X12_counts l dC dI cB cI cJ cZ cQ q _ z4 hI f6) (cwV 1 hts g_mc_X12_person_0 rfl rfl rfl (by decide +kernel) ⟨Nat.le_of_ble_eq_true rfl, Nat.le_of_ble_eq_true rfl⟩) hK hDD hA0 hP hS 0 12 wm0 rfl rfl hl.1 (Nat.le_of_ble_eq_true rfl) dX12_person_19 (fun z8 A9 H locs hw10 hP hS => ?_)
    obtain ⟨hI, hf11, hw10⟩ := hw10
    have r_A9_0_8 : (0 : Int) ≤ (A9 0 8) ∧ (A9 0 8) ≤ 5 := hI 0 8
    have rz8 : 0 ≤ z8 ∧ z8 ≤ 1 := hw10.1
    refine lv_if_ne (tgt := 26) hx hb dX12_person_22 (by decide) (fun c12 => ?_) (fun c12 => ?_)
    · have c12 : ¬ z8 = 0 := mt (i_eq0 (rb rz8 (by decide) (by decide))).mpr c12
      refine lv_iconst (v := iI 3) hx hb dX12_person_26 (by decide +kernel) ?_
      refine lv_aload_n hx hb dX12_person_27 rfl (lv_at hl 0 rfl) ?_
      have e_A9_47 : A9 0 47 = (A 0 47) := (hf11.2 47 rfl)
      refine va_get (D := (dC, dI)) (ci := 12) (v := .int (iI (A9 0 47))) (C := RX12) (T := TX12) (N := 85) hx hb hts hiX12 hown hK hP 0 wm0 rfl 47 (by decide) (hts _ (List.mem_of_getElem? (i := 2) rfl)) (fun _ h9 => h9) rfl dX12_person_28 ?_
      refine tp_i (y := iI (A 0 47)) (congrArg iI e_A9_47) ?_
      refine x_mulv (v := 3 * (A 0 47)) hx hb dX12_person_31 (by omega) ?_
      refine lv_aload_n hx hb dX12_person_32 rfl (lv_at hl 0 rfl) ?_
      refine va_get (D := (dC, dI)) (ci := 12) (v := .ref (q 16)) (C := RX12) (T := TX12) (N := 85) hx hb hts hiX12 hown hK hP 0 wm0 rfl 27 (by decide) (hts _ (List.mem_of_getElem? (i := 1) rfl)) (fun _ h9 => h9) rfl dX12_person_33 ?_
      refine lv_aload_n hx hb dX12_person_36 rfl (lv_at hl 0 rfl) ?_
      refine va_get (D := (dC, dI)) (ci := 12) (v := .int (iI (A9 0 47))) (C := RX12) (T := TX12) (N := 85) hx hb hts hiX12 hown hK hP 0 wm0 rfl 47 (by decide) (hts _ (List.mem_of_getElem? (i := 2) rfl)) (fun _ h9 => h9) rfl dX12_person_37 ?_
      refine tp_i (y := iI (A 0 47)) (congrArg iI e_A9_47) ?_
      have a_A9_16 : A9 16 = A 16 := (hf11.1 16 (by decide) rfl)
      refine x_iald hx hb hK hP 16 1 wm16 rfl (by omega) (by decide) dX12_person_40 (fun z13 hz13 => ?_)
      have rz13 : (0 : Int) ≤ z13 ∧ z13 ≤ 3 := by rw [hz13]; exact hI 16 _
      have hz13 : z13 = A 16 ((A 0 47)).toNat := hz13.trans (congrFun a_A9_16 _)
      have ez13 : z13 = z1 := hz13.trans hz1.symm
      refine x_addv (v := 3 * (A 0 47) + z13) hx hb dX12_person_41 (by omega) ?_
      refine lv_istore_n (lv' := [(1, .int (iI (3 * (A 0 47) + z13))), (0, .ref (q 0))]) hx hb dX12_person_42 rfl hl (by decide) rfl (fun ls hl => ?_)
      refine lv_aload_n hx hb dX12_person_43 rfl (lv_at hl 1 rfl) ?_
      refine va_get (D := (dC, dI)) (ci := 12) (v := .ref (q 17)) (C := RX12) (T := TX12) (N := 85) hx hb hts hiX12 hown hK hP 0 wm0 rfl 28 (by decide) (hts _ (List.mem_of_getElem? (i := 31) rfl)) (fun _ h9 => h9) rfl dX12_person_44 ?_
      refine lv_iload_n hx hb dX12_person_47 rfl (lv_at hl 0 rfl) ?_
      refine lv_aload_n hx hb dX12_person_48 rfl (lv_at hl 1 rfl) ?_
      refine x_calll (As := []) (rest := [.int (iI (3 * (A 0 47) + z13)), .ref (q 17)]) ⟨hx, hb, hml, hown, hts⟩ (mc_X12_fresh l dC dI cB cI cJ cZ cQ q _ hI) (cwV 0 hts g_mc_X12_person_1 rfl rfl rfl (by decide +kernel) ⟨Nat.le_of_ble_eq_true rfl, Nat.le_of_ble_eq_true rfl⟩) hK hDD hA0 hP hS 0 12 wm0 rfl rfl hl.1 (Nat.le_of_ble_eq_true rfl) dX12_person_49 (fun z14 A15 H locs hw16 hP hS => ?_)
      obtain ⟨hI, hf17, hw16⟩ := hw16
      refine x_last hx hb hK hP hDD hS 17 2 wm17 rfl (by omega) (by decide) dX12_person_52 ws17 (fun H locs hP hS => ?_)
      have hI := hI.st (j := 17) (i := (3 * (A 0 47) + z13).toNat) (v := z14) (show (-9223372036854775808 : Int) ≤ z14 ∧ z14 ≤ 9223372036854775807 from (by omega))
      refine lv_aload_n hx hb dX12_person_53 rfl (lv_at hl 1 rfl) ?_
      refine lv_ldc2 (v := 24948) hx hb hown (hts _ (List.mem_of_getElem? (i := 43) rfl)) dX12_person_54 ?_
      refine tp_l (y := jI 24948) (by decide +kernel) ?_
      obtain ⟨A18, hA18⟩ : ∃ A18 : St, A18 = (stA A15 17 (3 * (A 0 47) + z13).toNat z14) := ⟨_, rfl⟩
      rw [← hA18] at hP hI
      refine x_callv (As := [.long (jI 24948)]) (rest := []) ⟨hx, hb, hml, hown, hts⟩ (mc_X12_must_ l dC dI cB cI cJ cZ cQ q _ 24948 hI ⟨by decide, by decide⟩) (cwV 1 hts g_mc_X12_person_2 rfl rfl rfl (by decide +kernel) ⟨Nat.le_of_ble_eq_true rfl, Nat.le_of_ble_eq_true rfl⟩) hK hDD hA0 hP hS 0 12 wm0 rfl rfl hl.1 (Nat.le_of_ble_eq_true rfl) dX12_person_57 (fun A19 H locs hw20 hP hS => ?_)
      obtain ⟨hI, hf21, hw20⟩ := hw20
      clear hw20
      refine lv_aload_n hx hb dX12_person_60 rfl (lv_at hl 1 rfl) ?_
      refine va_get (D := (dC, dI)) (ci := 12) (v := .ref (q 18)) (C := RX12) (T := TX12) (N := 85) hx hb hts hiX12 hown hK hP 0 wm0 rfl 29 (by decide) (hts _ (List.mem_of_getElem? (i := 90) rfl)) (fun _ h9 => h9) rfl dX12_person_61 ?_
      refine lv_iload_n hx hb dX12_person_64 rfl (lv_at hl 0 rfl) ?_
      refine lv_aload_n hx hb dX12_person_65 rfl (lv_at hl 1 rfl) ?_
      refine lv_iconst (v := iI 0) hx hb dX12_person_66 (by decide +kernel) ?_
      refine x_calli (As := [.int (iI 0)]) (rest := [.int (iI (3 * (A 0 47) + z13)), .ref (q 18)]) ⟨hx, hb, hml, hown, hts⟩ (mc_X12_asked l dC dI cB cI cJ cZ cQ q _ 0 hI ⟨by decide, by decide⟩) (cwV 1 hts g_mc_X12_person_3 rfl rfl rfl (by decide +kernel) ⟨Nat.le_of_ble_eq_true rfl, Nat.le_of_ble_eq_true rfl⟩) hK hDD hA0 hP hS 0 12 wm0 rfl rfl hl.1 (Nat.le_of_ble_eq_true rfl) dX12_person_67 (fun z22 A23 H locs hw24 hP hS => ?_)
      obtain ⟨hI, hf25, hw24⟩ := hw24
      have hw24 : 0 ≤ z22 ∧ z22 ≤ 7 := ⟨hw24.1, hw24.2.2.1 rfl⟩
      refine x_iast hx hb hK hP hDD hS 18 1 wm18 rfl (by omega) (by decide) dX12_person_70 ws18 (fun H locs hP hS => ?_)
      have hI := hI.st (j := 18) (i := (3 * (A 0 47) + z13).toNat) (v := z22) (show (0 : Int) ≤ z22 ∧ z22 ≤ 7 from (by omega))
      refine lv_aload_n hx hb dX12_person_71 rfl (lv_at hl 1 rfl) ?_
      refine va_get (D := (dC, dI)) (ci := 12) (v := .int (iI (A23 0 8))) (C := RX12) (T := TX12) (N := 85) hx hb hts hiX12 hown hK hP 0 wm0 rfl 8 (by decide) (hts _ (List.mem_of_getElem? (i := 8) rfl)) (fun _ h9 => h9) rfl dX12_person_72 ?_
      have r_A23_0_8 : (0 : Int) ≤ (A23 0 8) ∧ (A23 0 8) ≤ 5 := hI 0 8
      refine lv_if_ne (tgt := 91) hx hb dX12_person_75 (by decide) (fun c26 => ?_) (fun c26 => ?_)
      · have c26 : ¬ (A23 0 8) = 0 := mt (i_eq0 (rb r_A23_0_8 (by decide) (by decide))).mpr c26
        exact RET _ _ _ _ _ ⟨hI, fr.st (fr.trans (fr.trans (fr_def hA18 (fr.st (fr.trans (fr.trans (fr.rf) hf11 rfl rfl) hf17 rfl rfl) (by decide) rfl)) hf21 rfl rfl) hf25 rfl rfl) (by decide) rfl, trivial⟩ hP hS dX12_person_91
      · have c26 : (A23 0 8) = 0 := (i_eq0 (rb r_A23_0_8 (by decide) (by decide))).mp c26
        refine lv_aload_n hx hb dX12_person_78 rfl (lv_at hl 1 rfl) ?_
        refine va_get (D := (dC, dI)) (ci := 12) (v := .ref (q 16)) (C := RX12) (T := TX12) (N := 85) hx hb hts hiX12 hown hK hP 0 wm0 rfl 27 (by decide) (hts _ (List.mem_of_getElem? (i := 1) rfl)) (fun _ h9 => h9) rfl dX12_person_79 ?_
        refine lv_aload_n hx hb dX12_person_82 rfl (lv_at hl 1 rfl) ?_
        have e_A15_47 : A15 0 47 = (A 0 47) := (hf17.2 47 rfl).trans e_A9_47
        have e_A18_47 : A18 0 47 = (A 0 47) := by rw [hA18]; exact e_A15_47
        have e_A19_47 : A19 0 47 = (A 0 47) := (hf21.2 47 rfl).trans e_A18_47
        have e_A23_47 : A23 0 47 = (A 0 47) := (hf25.2 47 rfl).trans e_A19_47
        refine va_get (D := (dC, dI)) (ci := 12) (v := .int (iI (A23 0 47))) (C := RX12) (T := TX12) (N := 85) hx hb hts hiX12 hown hK hP 0 wm0 rfl 47 (by decide) (hts _ (List.mem_of_getElem? (i := 2) rfl)) (fun _ h9 => h9) rfl dX12_person_83 ?_
        refine tp_i (y := iI (A 0 47)) (congrArg iI e_A23_47) ?_
        refine lv_dup2_11 hx hb dX12_person_86 rfl rfl ?_
        have a_A15_16 : A15 16 = A 16 := (hf17.1 16 (by decide) rfl).trans a_A9_16
        have a_A18_16 : A18 16 = A 16 := by rw [hA18]; exact a_A15_16
        have a_A19_16 : A19 16 = A 16 := (hf21.1 16 (by decide) rfl).trans a_A18_16
        have a_A23_16 : A23 16 = A 16 := (hf25.1 16 (by decide) rfl).trans a_A19_16
        refine x_iald hx hb hK hP 16 1 wm16 rfl (by omega) (by decide) dX12_person_87 (fun z27 hz27 => ?_)
        have rz27 : (0 : Int) ≤ z27 ∧ z27 ≤ 3 := by rw [hz27]; exact hI 16 _
        have hz27 : z27 = A 16 ((A 0 47)).toNat := hz27.trans (congrFun a_A23_16 _)
        have ez27 : z27 = z1 := hz27.trans hz1.symm
        refine lv_iconst (v := iI 1) hx hb dX12_person_88 (by decide +kernel) ?_
        refine x_addv (v := z27 + 1) hx hb dX12_person_89 (by omega) ?_
        refine x_iast hx hb hK hP hDD hS 16 1 wm16 rfl (by omega) (by decide) dX12_person_90 ws16 (fun H locs hP hS => ?_)
        have hI := hI.st (j := 16) (i := ((A 0 47)).toNat) (v := z27 + 1) (show (0 : Int) ≤ z27 + 1 ∧ z27 + 1 ≤ 3 from (by omega))
        exact RET _ _ _ _ _ ⟨hI, fr.st (fr.st (fr.trans (fr.trans (fr_def hA18 (fr.st (fr.trans (fr.trans (fr.rf) hf11 rfl rfl) hf17 rfl rfl) (by decide) rfl)) hf21 rfl rfl) hf25 rfl rfl) (by decide) rfl) (by decide) rfl, trivial⟩ hP hS dX12_person_91
    · have c12 : z8 = 0 := (i_eq0 (rb rz8 (by decide) (by decide))).mp c12
      exact RET _ _ _ _ _ ⟨hI, fr.trans (fr.rf) hf11 rfl rfl, trivial⟩ hP hS dX12_person_25
  refine lv_icmp_ne (tgt := 18) hx hb dX12_person_11 (by decide) (fun c2 => ?_) (fun c2 => ?_)
  · have c2 : ¬ z1 = 3 := mt (i_eq (rb rz1 (by decide) (by decide)) ⟨by decide, by decide⟩).mpr c2
    refine lv_iconst (v := iI 0) hx hb dX12_person_18 (by decide +kernel) ?_
    exact J19_3 0 _ _ _ (by omega) (by omega) hP hS (lv_sub hl [0] rfl)
  · have c2 : z1 = 3 := (i_eq (rb rz1 (by decide) (by decide)) ⟨by decide, by decide⟩).mp c2
    refine lv_iconst (v := iI 1) hx hb dX12_person_14 (by decide +kernel) ?_
    refine lv_goto (tgt := 19) hx hb dX12_person_15 (by decide) ?_
    exact J19_3 1 _ _ _ (by omega) (by omega) hP hS (lv_sub hl [0] rfl)

def ws_mc_X12_having : List Cond := .code yX12_having cX12_having 3 none :: ([.methodLink RX12 394 yX12_counts, .instanceMethod yX12_counts, .selects RX12 yX12_counts yX12_counts, .initialized RX12, .code yX12_counts cX12_counts 2 (some .boolean), .fieldLink RX12 36 "StackKeysModel" "faultKind" "I", .fieldLink RX12 23 "StackKeysModel" "signAt" "I", .methodLink RX12 286 yX12_blame, .instanceMethod yX12_blame, .selects RX12 yX12_blame yX12_blame, .code yX12_blame cX12_blame 3 none, .fieldLink RX12 39 "StackKeysModel" "faultPlace" "I", .methodLink RX12 293 yX12_ahead, .instanceMethod yX12_ahead, .selects RX12 yX12_ahead yX12_ahead, .code yX12_ahead cX12_ahead 6 none, .fieldLink RX12 26 "StackKeysModel" "signEnd" "I", .fieldLink RX12 17 "StackKeysModel" "size" "I", .fieldLink RX12 7 "StackKeysModel" "tape" "[I", .fieldLink RX12 20 "StackKeysModel" "sign" "I", .methodLink RX12 279 yX12_isLetter, .static yX12_isLetter, .code yX12_isLetter cX12_isLetter 1 (some .boolean), .methodLink RX12 283 yX12_isDigit, .static yX12_isDigit, .code yX12_isDigit cX12_isDigit 1 (some .boolean), .fieldLink RX12 29 "StackKeysModel" "value" "I", .fieldLink RX12 32 "StackKeysModel" "word" "J", .methodLink RX12 406 yX12_asked, .instanceMethod yX12_asked, .selects RX12 yX12_asked yX12_asked, .code yX12_asked cX12_asked 3 (some .int), .methodLink RX12 387 yX12_isOwn, .instanceMethod yX12_isOwn, .selects RX12 yX12_isOwn yX12_isOwn, .code yX12_isOwn cX12_isOwn 3 (some .boolean), .constantLong RX12 296 (482854658917), .constantLong RX12 298 (1685024626), .constantLong RX12 300 (6451064), .constantLong RX12 302 (24948), .constantLong RX12 304 (7038329), .constantLong RX12 306 (26990), .constantLong RX12 308 (123581014175598), .constantLong RX12 310 (6840691), .constantLong RX12 312 (1936225652), .constantLong RX12 314 (25209), .constantLong RX12 316 (1819243380), .constantLong RX12 318 (499967946343), .constantLong RX12 320 (512735736947), .constantLong RX12 322 (1836413812), .constantLong RX12 324 (6447474), .constantLong RX12 326 (2003330414), .constantLong RX12 328 (28530), .constantLong RX12 330 (6385252), .constantLong RX12 332 (7237492), .constantLong RX12 334 (6384748), .constantLong RX12 336 (7825519), .constantLong RX12 338 (1936748404), .constantLong RX12 340 (1801812339), .constantLong RX12 342 (109317377451364), .constantLong RX12 344 (7170414), .constantLong RX12 346 (7168376), .methodLink RX12 390 yX12_named, .instanceMethod yX12_named, .selects RX12 yX12_named yX12_named, .code yX12_named cX12_named 6 (some .int), .fieldLink RX12 51 "StackKeysModel" "places" "[I", .fieldLink RX12 155 "StackKeysModel" "in" "I", .methodLink RX12 348 yX12_nameOf, .instanceMethod yX12_nameOf, .selects RX12 yX12_nameOf yX12_nameOf, .code yX12_nameOf cX12_nameOf 4 (some .long), .fieldLink RX12 107 "StackKeysModel" "thingName" "[J", .fieldLink RX12 54 "StackKeysModel" "placeName" "[J", .fieldLink RX12 61 "StackKeysModel" "doorName" "[J", .fieldLink RX12 83 "StackKeysModel" "keyName" "[J", .fieldLink RX12 98 "StackKeysModel" "personName" "[J", .fieldLink RX12 58 "StackKeysModel" "doors" "[I", .fieldLink RX12 80 "StackKeysModel" "keys" "[I", .fieldLink RX12 95 "StackKeysModel" "persons" "[I", .fieldLink RX12 104 "StackKeysModel" "things" "[I", .fieldLink RX12 86 "StackKeysModel" "keyAt" "[I"] ++ wsX120)
set_option maxRecDepth 20000 in
theorem g_mc_X12_having_0 : GoodIn ws_mc_X12_having (wsV RX12 394 RX12 yX12_counts ws_mc_X12_counts) := goodIn_r _ [1, 2, 3, 4, 5, 6, 7, 8, 9, 10, 4, 11, 12, 13, 14, 15, 16, 17, 18, 19, 20, 21, 22, 23, 24, 25, 26, 27, 28, 83, 84, 85, 86, 87, 88, 89, 90, 91, 92, 93, 94, 95, 96, 97, 98, 99, 100, 101, 102, 103, 104, 105, 106, 107, 108, 109, 110, 111, 112, 113, 114, 115, 116, 117, 118, 119, 120, 121, 122, 123, 124, 125, 126, 127, 128, 129, 130, 131, 132, 133, 134, 135, 136, 137, 138, 139, 140, 141, 142, 143, 144, 145, 146, 147, 148, 149, 150, 151, 152, 153, 154, 155, 156, 157, 158, 159, 160, 161, 162, 163, 164, 165, 166, 167] (by decide +kernel) (by decide +kernel)
set_option maxRecDepth 20000 in
theorem g_mc_X12_having_1 : GoodIn ws_mc_X12_having (wsV RX12 406 RX12 yX12_asked ws_mc_X12_asked) := goodIn_r _ [29, 30, 31, 4, 32, 6, 20, 28, 33, 34, 35, 4, 36, 37, 38, 39, 40, 41, 42, 43, 44, 45, 46, 47, 48, 49, 50, 51, 52, 53, 54, 55, 56, 57, 58, 59, 60, 61, 62, 7, 8, 9, 10, 11, 12, 63, 64, 65, 66, 67, 68, 69, 70, 71, 72, 73, 74, 75, 76, 77, 78, 79, 80, 81, 13, 14, 15, 16, 17, 18, 19, 21, 22, 23, 24, 25, 26, 27, 83, 84, 85, 86, 87, 88, 89, 90, 91, 92, 93, 94, 95, 96, 97, 98, 99, 100, 101, 102, 103, 104, 105, 106, 107, 108, 109, 110, 111, 112, 113, 114, 115, 116, 117, 118, 119, 120, 121, 122, 123, 124, 125, 126, 127, 128, 129, 130, 131, 132, 133, 134, 135, 136, 137, 138, 139, 140, 141, 142, 143, 144, 145, 146, 147, 148, 149, 150, 151, 152, 153, 154, 155, 156, 157, 158, 159, 160, 161, 162, 163, 164, 165, 166, 167] (by decide +kernel) (by decide +kernel)
set_option maxRecDepth 20000 in
theorem g_mc_X12_having_2 : GoodIn ws_mc_X12_having (wsV RX12 387 RX12 yX12_isOwn ws_mc_X12_isOwn) := goodIn_r _ [33, 34, 35, 4, 36, 37, 38, 39, 40, 41, 42, 43, 44, 45, 46, 47, 48, 49, 50, 51, 52, 53, 54, 55, 56, 57, 58, 59, 60, 61, 62] (by decide +kernel) (by decide +kernel)
set_option maxRecDepth 20000 in
theorem g_mc_X12_having_3 : GoodIn ws_mc_X12_having (wsV RX12 390 RX12 yX12_named ws_mc_X12_named) := goodIn_r _ [63, 64, 65, 4, 66, 67, 68, 69, 70, 71, 4, 72, 73, 74, 75, 76, 77, 78, 79, 80, 81, 83, 84, 85, 86, 87, 88, 89, 90, 91, 92, 93, 94, 95, 96, 97, 98, 99, 100, 101, 102, 103, 104, 105, 106, 107, 108, 109, 110, 111, 112, 113, 114, 115, 116, 117, 118, 119, 120, 121, 122, 123, 124, 125, 126, 127, 128, 129, 130, 131, 132, 133, 134, 135, 136, 137, 138, 139, 140, 141, 142, 143, 144, 145, 146, 147, 148, 149, 150, 151, 152, 153, 154, 155, 156, 157, 158, 159, 160, 161, 162, 163, 164, 165, 166, 167] (by decide +kernel) (by decide +kernel)
set_option maxRecDepth 20000 in
theorem g_mc_X12_having_4 : GoodIn ws_mc_X12_having (wsV RX12 286 RX12 yX12_blame ws_mc_X12_blame) := goodIn_r _ [8, 9, 10, 4, 11, 6, 12, 83, 84, 85, 86, 87, 88, 89, 90, 91, 92, 93, 94, 95, 96, 97, 98, 99, 100, 101, 102, 103, 104, 105, 106, 107, 108, 109, 110, 111, 112, 113, 114, 115, 116, 117, 118, 119, 120, 121, 122, 123, 124, 125, 126, 127, 128, 129, 130, 131, 132, 133, 134, 135, 136, 137, 138, 139, 140, 141, 142, 143, 144, 145, 146, 147, 148, 149, 150, 151, 152, 153, 154, 155, 156, 157, 158, 159, 160, 161, 162, 163, 164, 165, 166, 167] (by decide +kernel) (by decide +kernel)
set_option maxRecDepth 20000 in
theorem g_mc_X12_having_5 : GoodIn ws_mc_X12_having (wsV RX12 406 RX12 yX12_asked ws_mc_X12_asked) := goodIn_r _ [29, 30, 31, 4, 32, 6, 20, 28, 33, 34, 35, 4, 36, 37, 38, 39, 40, 41, 42, 43, 44, 45, 46, 47, 48, 49, 50, 51, 52, 53, 54, 55, 56, 57, 58, 59, 60, 61, 62, 7, 8, 9, 10, 11, 12, 63, 64, 65, 66, 67, 68, 69, 70, 71, 72, 73, 74, 75, 76, 77, 78, 79, 80, 81, 13, 14, 15, 16, 17, 18, 19, 21, 22, 23, 24, 25, 26, 27, 83, 84, 85, 86, 87, 88, 89, 90, 91, 92, 93, 94, 95, 96, 97, 98, 99, 100, 101, 102, 103, 104, 105, 106, 107, 108, 109, 110, 111, 112, 113, 114, 115, 116, 117, 118, 119, 120, 121, 122, 123, 124, 125, 126, 127, 128, 129, 130, 131, 132, 133, 134, 135, 136, 137, 138, 139, 140, 141, 142, 143, 144, 145, 146, 147, 148, 149, 150, 151, 152, 153, 154, 155, 156, 157, 158, 159, 160, 161, 162, 163, 164, 165, 166, 167] (by decide +kernel) (by decide +kernel)
set_option maxHeartbeats 4000000 in
set_option maxRecDepth 100000 in
theorem mc_X12_having (l : Launch) (dC : Nat → ClassId) (dI : Nat → Nat → Nat) (cB cI cJ cZ cQ : ClassId) (q : Nat → Nat) (A : St) (hI : IM A) : XMv l yX12_having ws_mc_X12_having ({ frames := 3, cells := 0, slots := 0, locals := 70 } : Room) (dC, dI) (tyA cB cI cJ cZ cQ) (WM cI cJ cZ q) A [.ref (q 0)] (fun u => IM u ∧ fr [13] [3, 4, 5, 6, 7, 8, 9] A u ∧ (True)) := by
  refine x_metv (cc := cX12_having) (maxL := 3) WM_adr (by decide +kernel) rfl (Nat.le_of_ble_eq_true rfl) (fun p e s m below meth c Q AS ls hx hb hml hown hts hK hDD hA0 hP hS hl RET => ?_)
  have hown : s.vm.findClass RX12 = some m.cls := hown
  have hl : lv_has ls 3 [(0, .ref (q 0))] := hl
  have hiX12 : ∀ w ∈ u_ws RX12 TX12 85, w ∈ ws_mc_X12_having := fun w h => List.mem_cons_of_mem _ (List.mem_append_right _ h)
  obtain ⟨H, hHe⟩ : ∃ H : Heap, H = s.heap := ⟨_, rfl⟩
  rw [← hHe] at hP
  have hS : va_S AS s.heap H [] := by rw [hHe]; exact hS
  suffices hgo : ∀ locs : List Loc, va_S AS s.heap H locs → W p l e (headSpec ws_mc_X12_having ({ frames := 3, cells := 0, slots := 0, locals := 70 } : Room)).room s m [.ref (q 0)].toArray below meth c H locs 0 0 Q (F0 m 0 ls []) by
    have := hgo [] hS
    rw [hHe] at this
    exact this
  clear hS hHe
  intro locs hS
  refine lv_aload_n hx hb dX12_having_0 rfl (lv_at hl 0 rfl) ?_
  refine lv_iconst (v := iI 0) hx hb dX12_having_1 (by decide +kernel) ?_
  refine x_calli (As := [.int (iI 0)]) (rest := []) ⟨hx, hb, hml, hown, hts⟩ (mc_X12_counts l dC dI cB cI cJ cZ cQ q _ 0 hI ⟨by decide, by decide⟩) (cwV 1 hts g_mc_X12_having_0 rfl rfl rfl (by decide +kernel) ⟨Nat.le_of_ble_eq_true rfl, Nat.le_of_ble_eq_true rfl⟩) hK hDD hA0 hP hS 0 12 wm0 rfl rfl hl.1 (Nat.le_of_ble_eq_true rfl) dX12_having_2 (fun z1 A2 H locs hw3 hP hS => ?_)
  obtain ⟨hI, hf4, hw3⟩ := hw3
  have r_A2_0_8 : (0 : Int) ≤ (A2 0 8) ∧ (A2 0 8) ≤ 5 := hI 0 8
  have rz1 : 0 ≤ z1 ∧ z1 ≤ 1 := hw3.1
  refine lv_if_ne (tgt := 9) hx hb dX12_having_5 (by decide) (fun c5 => ?_) (fun c5 => ?_)
  · have c5 : ¬ z1 = 0 := mt (i_eq0 (rb rz1 (by decide) (by decide))).mpr c5
    refine lv_aload_n hx hb dX12_having_9 rfl (lv_at hl 0 rfl) ?_
    refine lv_iconst (v := iI 3) hx hb dX12_having_10 (by decide +kernel) ?_
    refine x_calli (As := [.int (iI 3)]) (rest := []) ⟨hx, hb, hml, hown, hts⟩ (mc_X12_asked l dC dI cB cI cJ cZ cQ q _ 3 hI ⟨by decide, by decide⟩) (cwV 1 hts g_mc_X12_having_1 rfl rfl rfl (by decide +kernel) ⟨Nat.le_of_ble_eq_true rfl, Nat.le_of_ble_eq_true rfl⟩) hK hDD hA0 hP hS 0 12 wm0 rfl rfl hl.1 (Nat.le_of_ble_eq_true rfl) dX12_having_11 (fun z6 A7 H locs hw8 hP hS => ?_)
    obtain ⟨hI, hf9, hw8⟩ := hw8
    have hw8 : 0 ≤ z6 ∧ z6 ≤ 2 := ⟨hw8.1, hw8.2.2.2.2.1 rfl⟩
    refine lv_istore_n (lv' := [(1, .int (iI z6)), (0, .ref (q 0))]) hx hb dX12_having_14 rfl hl (by decide) rfl (fun ls hl => ?_)
    refine lv_aload_n hx hb dX12_having_15 rfl (lv_at hl 1 rfl) ?_
    refine va_get (D := (dC, dI)) (ci := 12) (v := .int (iI (A7 0 8))) (C := RX12) (T := TX12) (N := 85) hx hb hts hiX12 hown hK hP 0 wm0 rfl 8 (by decide) (hts _ (List.mem_of_getElem? (i := 6) rfl)) (fun _ h9 => h9) rfl dX12_having_16 ?_
    have r_A7_0_8 : (0 : Int) ≤ (A7 0 8) ∧ (A7 0 8) ≤ 5 := hI 0 8
    have J54_12 : ∀ (z22 : Int) (H : Heap) (locs : List Loc) (ls : Array Slot), (-1 ≤ z22 ∧ z22 ≤ 3) → va_P (dC, dI) vwCl (WM cI cJ cZ q A7) H → va_S AS s.heap H locs → lv_has ls 3 [(1, .int (iI z6)), (0, .ref (q 0))] → W p l e (headSpec ws_mc_X12_having ({ frames := 3, cells := 0, slots := 0, locals := 70 } : Room)).room s m [.ref (q 0)].toArray below meth c H locs 0 0 Q (F0 m 54 ls [.int (iI z22)]) := by
      intro z22 H locs ls f24 hP hS hl
      refine lv_istore_n (lv' := [(2, .int (iI z22)), (1, .int (iI z6)), (0, .ref (q 0))]) hx hb dX12_having_54 rfl hl (by decide) rfl (fun ls hl => ?_)
      refine lv_iload_n hx hb dX12_having_55 rfl (lv_at hl 0 rfl) ?_
      refine lv_iconst (v := iI (-1)) hx hb dX12_having_56 (by decide +kernel) ?_
      have J87_26 : ∀ (A33 : St) (H : Heap) (locs : List Loc) (ls : Array Slot), IM A33 → fr [] [8, 9] A7 A33 → va_P (dC, dI) vwCl (WM cI cJ cZ q A33) H → va_S AS s.heap H locs → lv_has ls 3 [(2, .int (iI z22)), (1, .int (iI z6)), (0, .ref (q 0))] → W p l e (headSpec ws_mc_X12_having ({ frames := 3, cells := 0, slots := 0, locals := 70 } : Room)).room s m [.ref (q 0)].toArray below meth c H locs 0 0 Q (F0 m 87 ls []) := by
        intro A33 H locs ls hI hj32 hP hS hl
        refine lv_aload_n hx hb dX12_having_87 rfl (lv_at hl 2 rfl) ?_
        refine lv_iconst (v := iI 2) hx hb dX12_having_88 (by decide +kernel) ?_
        refine x_calli (As := [.int (iI 2)]) (rest := []) ⟨hx, hb, hml, hown, hts⟩ (mc_X12_asked l dC dI cB cI cJ cZ cQ q _ 2 hI ⟨by decide, by decide⟩) (cwV 1 hts g_mc_X12_having_5 rfl rfl rfl (by decide +kernel) ⟨Nat.le_of_ble_eq_true rfl, Nat.le_of_ble_eq_true rfl⟩) hK hDD hA0 hP hS 0 12 wm0 rfl rfl hl.1 (Nat.le_of_ble_eq_true rfl) dX12_having_89 (fun z34 A35 H locs hw36 hP hS => ?_)
        obtain ⟨hI, hf37, hw36⟩ := hw36
        have hw36 : 0 ≤ z34 ∧ z34 ≤ 3 := ⟨hw36.1, hw36.2.2.2.1 rfl⟩
        refine lv_istore_n (lv' := [(2, .int (iI z34)), (1, .int (iI z6)), (0, .ref (q 0))]) hx hb dX12_having_92 rfl hl (by decide) rfl (fun ls hl => ?_)
        refine lv_aload_n hx hb dX12_having_93 rfl (lv_at hl 2 rfl) ?_
        refine va_get (D := (dC, dI)) (ci := 12) (v := .int (iI (A35 0 8))) (C := RX12) (T := TX12) (N := 85) hx hb hts hiX12 hown hK hP 0 wm0 rfl 8 (by decide) (hts _ (List.mem_of_getElem? (i := 6) rfl)) (fun _ h9 => h9) rfl dX12_having_94 ?_
        have r_A35_0_8 : (0 : Int) ≤ (A35 0 8) ∧ (A35 0 8) ≤ 5 := hI 0 8
        refine lv_if_ne (tgt := 114) hx hb dX12_having_97 (by decide) (fun c38 => ?_) (fun c38 => ?_)
        · have c38 : ¬ (A35 0 8) = 0 := mt (i_eq0 (rb r_A35_0_8 (by decide) (by decide))).mpr c38
          exact RET _ _ _ _ _ ⟨hI, fr.trans (fr.trans (fr.trans (fr.trans (fr.rf) hf4 rfl rfl) hf9 rfl rfl) hj32 rfl rfl) hf37 rfl rfl, trivial⟩ hP hS dX12_having_114
        · have c38 : (A35 0 8) = 0 := (i_eq0 (rb r_A35_0_8 (by decide) (by decide))).mp c38
          refine lv_aload_n hx hb dX12_having_100 rfl (lv_at hl 2 rfl) ?_
          refine va_get (D := (dC, dI)) (ci := 12) (v := .ref (q 13)) (C := RX12) (T := TX12) (N := 85) hx hb hts hiX12 hown hK hP 0 wm0 rfl 24 (by decide) (hts _ (List.mem_of_getElem? (i := 82) rfl)) (fun _ h9 => h9) rfl dX12_having_101 ?_
          refine lv_iconst (v := iI 4) hx hb dX12_having_104 (by decide +kernel) ?_
          refine lv_aload_n hx hb dX12_having_105 rfl (lv_at hl 2 rfl) ?_
          have e_A2_47 : A2 0 47 = (A 0 47) := (hf4.2 47 rfl)
          have e_A7_47 : A7 0 47 = (A 0 47) := (hf9.2 47 rfl).trans e_A2_47
          have e_A33_47 : A33 0 47 = (A 0 47) := (hj32.2 47 rfl).trans e_A7_47
          have e_A35_47 : A35 0 47 = (A 0 47) := (hf37.2 47 rfl).trans e_A33_47
          refine va_get (D := (dC, dI)) (ci := 12) (v := .int (iI (A35 0 47))) (C := RX12) (T := TX12) (N := 85) hx hb hts hiX12 hown hK hP 0 wm0 rfl 47 (by decide) (hts _ (List.mem_of_getElem? (i := 68) rfl)) (fun _ h9 => h9) rfl dX12_having_106 ?_
          refine tp_i (y := iI (A 0 47)) (congrArg iI e_A35_47) ?_
          have r_A_0_47 : (0 : Int) ≤ (A 0 47) ∧ (A 0 47) ≤ 1 := by rw [← e_A35_47]; exact hI 0 47
          refine x_mulv (v := 4 * (A 0 47)) hx hb dX12_having_109 (by omega) ?_
          refine lv_iload_n hx hb dX12_having_110 rfl (lv_at hl 0 rfl) ?_
          refine x_addv (v := 4 * (A 0 47) + z34) hx hb dX12_having_111 (by omega) ?_
          refine lv_iload_n hx hb dX12_having_112 rfl (lv_at hl 1 rfl) ?_
          refine x_iast hx hb hK hP hDD hS 13 1 wm13 rfl (by omega) (by decide) dX12_having_113 ws13 (fun H locs hP hS => ?_)
          have hI := hI.st (j := 13) (i := (4 * (A 0 47) + z34).toNat) (v := z6) (show (0 : Int) ≤ z6 ∧ z6 ≤ 40 from (by omega))
          exact RET _ _ _ _ _ ⟨hI, fr.st (fr.trans (fr.trans (fr.trans (fr.trans (fr.rf) hf4 rfl rfl) hf9 rfl rfl) hj32 rfl rfl) hf37 rfl rfl) (by decide) rfl, trivial⟩ hP hS dX12_having_114
      refine lv_icmp_eq (tgt := 87) hx hb dX12_having_57 (by decide) (fun c25 => ?_) (fun c25 => ?_)
      · have c25 : z22 = (-1) := (i_eq (rb f24 (by decide) (by decide)) ⟨by decide, by decide⟩).mp c25
        exact J87_26 _ _ _ _ hI (fr.rf) hP hS (lv_sub hl [0, 1, 2] rfl)
      · have c25 : ¬ z22 = (-1) := mt (i_eq (rb f24 (by decide) (by decide)) ⟨by decide, by decide⟩).mpr c25
        refine lv_aload_n hx hb dX12_having_60 rfl (lv_at hl 2 rfl) ?_
        refine va_get (D := (dC, dI)) (ci := 12) (v := .ref (q 13)) (C := RX12) (T := TX12) (N := 85) hx hb hts hiX12 hown hK hP 0 wm0 rfl 24 (by decide) (hts _ (List.mem_of_getElem? (i := 82) rfl)) (fun _ h9 => h9) rfl dX12_having_61 ?_
        refine lv_iconst (v := iI 4) hx hb dX12_having_64 (by decide +kernel) ?_
        refine lv_aload_n hx hb dX12_having_65 rfl (lv_at hl 2 rfl) ?_
        have e_A2_47 : A2 0 47 = (A 0 47) := (hf4.2 47 rfl)
        have e_A7_47 : A7 0 47 = (A 0 47) := (hf9.2 47 rfl).trans e_A2_47
        refine va_get (D := (dC, dI)) (ci := 12) (v := .int (iI (A7 0 47))) (C := RX12) (T := TX12) (N := 85) hx hb hts hiX12 hown hK hP 0 wm0 rfl 47 (by decide) (hts _ (List.mem_of_getElem? (i := 68) rfl)) (fun _ h9 => h9) rfl dX12_having_66 ?_
        refine tp_i (y := iI (A 0 47)) (congrArg iI e_A7_47) ?_
        have r_A_0_47 : (0 : Int) ≤ (A 0 47) ∧ (A 0 47) ≤ 1 := by rw [← e_A7_47]; exact hI 0 47
        refine x_mulv (v := 4 * (A 0 47)) hx hb dX12_having_69 (by omega) ?_
        refine lv_iload_n hx hb dX12_having_70 rfl (lv_at hl 0 rfl) ?_
        refine x_addv (v := 4 * (A 0 47) + z22) hx hb dX12_having_71 (by omega) ?_
        have a_A2_13 : A2 13 = A 13 := (hf4.1 13 (by decide) rfl)
        have a_A7_13 : A7 13 = A 13 := (hf9.1 13 (by decide) rfl).trans a_A2_13
        refine x_iald hx hb hK hP 13 1 wm13 rfl (by omega) (by decide) dX12_having_72 (fun z27 hz27 => ?_)
        have rz27 : (0 : Int) ≤ z27 ∧ z27 ≤ 40 := by rw [hz27]; exact hI 13 _
        have hz27 : z27 = A 13 (4 * (A 0 47) + z22).toNat := hz27.trans (congrFun a_A7_13 _)
        refine lv_bipush (v := iI 10) hx hb dX12_having_73 (by decide +kernel) ?_
        refine lv_icmp_ge (tgt := 87) hx hb dX12_having_75 (by decide) (fun c28 => ?_) (fun c28 => ?_)
        · have c28 : 10 ≤ z27 := (i_le ⟨by decide, by decide⟩ (rb rz27 (by decide) (by decide))).mp c28
          exact J87_26 _ _ _ _ hI (fr.rf) hP hS (lv_sub hl [0, 1, 2] rfl)
        · have c28 : ¬ 10 ≤ z27 := mt (i_le ⟨by decide, by decide⟩ (rb rz27 (by decide) (by decide))).mpr c28
          refine lv_aload_n hx hb dX12_having_78 rfl (lv_at hl 2 rfl) ?_
          refine lv_iconst (v := iI 3) hx hb dX12_having_79 (by decide +kernel) ?_
          refine lv_aload_n hx hb dX12_having_80 rfl (lv_at hl 2 rfl) ?_
          refine va_get (D := (dC, dI)) (ci := 12) (v := .int (iI (A7 0 4))) (C := RX12) (T := TX12) (N := 85) hx hb hts hiX12 hown hK hP 0 wm0 rfl 4 (by decide) (hts _ (List.mem_of_getElem? (i := 7) rfl)) (fun _ h9 => h9) rfl dX12_having_81 ?_
          have r_A7_0_4 : (0 : Int) ≤ (A7 0 4) ∧ (A7 0 4) ≤ 1600 := hI 0 4
          refine x_callv (As := [.int (iI 3), .int (iI (A7 0 4))]) (rest := []) ⟨hx, hb, hml, hown, hts⟩ (mc_X12_blame l dC dI cB cI cJ cZ cQ q _ 3 (A7 0 4) hI ⟨by decide, by decide⟩ r_A7_0_4) (cwV 2 hts g_mc_X12_having_4 rfl rfl rfl (by decide +kernel) ⟨Nat.le_of_ble_eq_true rfl, Nat.le_of_ble_eq_true rfl⟩) hK hDD hA0 hP hS 0 12 wm0 rfl rfl hl.1 (Nat.le_of_ble_eq_true rfl) dX12_having_84 (fun A29 H locs hw30 hP hS => ?_)
          obtain ⟨hI, hf31, hw30⟩ := hw30
          have r_A29_0_8 : (0 : Int) ≤ (A29 0 8) ∧ (A29 0 8) ≤ 5 := hI 0 8
          exact J87_26 _ _ _ _ hI (fr.trans (fr.rf) hf31 rfl rfl) hP hS (lv_sub hl [0, 1, 2] rfl)
    have J53_11 : ∀ (H : Heap) (locs : List Loc) (ls : Array Slot), va_P (dC, dI) vwCl (WM cI cJ cZ q A7) H → va_S AS s.heap H locs → lv_has ls 3 [(1, .int (iI z6)), (0, .ref (q 0))] → W p l e (headSpec ws_mc_X12_having ({ frames := 3, cells := 0, slots := 0, locals := 70 } : Room)).room s m [.ref (q 0)].toArray below meth c H locs 0 0 Q (F0 m 53 ls []) := by
      intro H locs ls hP hS hl
      refine lv_iconst (v := iI (-1)) hx hb dX12_having_53 (by decide +kernel) ?_
      exact J54_12 (-1) _ _ _ (by omega) hP hS (lv_sub hl [0, 1] rfl)
    refine lv_if_ne (tgt := 53) hx hb dX12_having_19 (by decide) (fun c10 => ?_) (fun c10 => ?_)
    · have c10 : ¬ (A7 0 8) = 0 := mt (i_eq0 (rb r_A7_0_8 (by decide) (by decide))).mpr c10
      exact J53_11 _ _ _ hP hS (lv_sub hl [0, 1] rfl)
    · have c10 : (A7 0 8) = 0 := (i_eq0 (rb r_A7_0_8 (by decide) (by decide))).mp c10
      refine lv_aload_n hx hb dX12_having_22 rfl (lv_at hl 1 rfl) ?_
      refine va_get (D := (dC, dI)) (ci := 12) (v := .int (iI (A7 0 3))) (C := RX12) (T := TX12) (N := 85) hx hb hts hiX12 hown hK hP 0 wm0 rfl 3 (by decide) (hts _ (List.mem_of_getElem? (i := 20) rfl)) (fun _ h9 => h9) rfl dX12_having_23 ?_
      have r_A7_0_3 : (0 : Int) ≤ (A7 0 3) ∧ (A7 0 3) ≤ 3 := hI 0 3
      refine lv_iconst (v := iI 1) hx hb dX12_having_26 (by decide +kernel) ?_
      refine lv_icmp_ne (tgt := 53) hx hb dX12_having_27 (by decide) (fun c13 => ?_) (fun c13 => ?_)
      · have c13 : ¬ (A7 0 3) = 1 := mt (i_eq (rb r_A7_0_3 (by decide) (by decide)) ⟨by decide, by decide⟩).mpr c13
        exact J53_11 _ _ _ hP hS (lv_sub hl [0, 1] rfl)
      · have c13 : (A7 0 3) = 1 := (i_eq (rb r_A7_0_3 (by decide) (by decide)) ⟨by decide, by decide⟩).mp c13
        refine lv_aload_n hx hb dX12_having_30 rfl (lv_at hl 1 rfl) ?_
        refine lv_aload_n hx hb dX12_having_31 rfl (lv_at hl 1 rfl) ?_
        refine va_get (D := (dC, dI)) (ci := 12) (v := .long (jI (A7 0 7))) (C := RX12) (T := TX12) (N := 85) hx hb hts hiX12 hown hK hP 0 wm0 rfl 7 (by decide) (hts _ (List.mem_of_getElem? (i := 28) rfl)) (fun _ h9 => h9) rfl dX12_having_32 ?_
        have r_A7_0_7 : (-9223372036854775808 : Int) ≤ (A7 0 7) ∧ (A7 0 7) ≤ 9223372036854775807 := hI 0 7
        refine x_calli (As := [.long (jI (A7 0 7))]) (rest := []) ⟨hx, hb, hml, hown, hts⟩ (mc_X12_isOwn l dC dI cB cI cJ cZ cQ q _ (A7 0 7) hI r_A7_0_7) (cwV 1 hts g_mc_X12_having_2 rfl rfl rfl (by decide +kernel) ⟨Nat.le_of_ble_eq_true rfl, Nat.le_of_ble_eq_true rfl⟩) hK hDD hA0 hP hS 0 12 wm0 rfl rfl hl.1 (Nat.le_of_ble_eq_true rfl) dX12_having_35 (fun z14 A15 H locs hw16 hP hS => ?_)
        obtain ⟨rfl, hw16⟩ := hw16
        refine lv_if_ne (tgt := 53) hx hb dX12_having_38 (by decide) (fun c17 => ?_) (fun c17 => ?_)
        · have c17 : ¬ z14 = 0 := mt (i_eq0 (rb hw16 (by decide) (by decide))).mpr c17
          exact J53_11 _ _ _ hP hS (lv_sub hl [0, 1] rfl)
        · have c17 : z14 = 0 := (i_eq0 (rb hw16 (by decide) (by decide))).mp c17
          refine lv_aload_n hx hb dX12_having_41 rfl (lv_at hl 1 rfl) ?_
          refine lv_iconst (v := iI 2) hx hb dX12_having_42 (by decide +kernel) ?_
          refine lv_aload_n hx hb dX12_having_43 rfl (lv_at hl 1 rfl) ?_
          refine va_get (D := (dC, dI)) (ci := 12) (v := .long (jI (A7 0 7))) (C := RX12) (T := TX12) (N := 85) hx hb hts hiX12 hown hK hP 0 wm0 rfl 7 (by decide) (hts _ (List.mem_of_getElem? (i := 28) rfl)) (fun _ h9 => h9) rfl dX12_having_44 ?_
          refine x_calli (As := [.int (iI 2), .long (jI (A7 0 7))]) (rest := []) ⟨hx, hb, hml, hown, hts⟩ (mc_X12_named l dC dI cB cI cJ cZ cQ q _ 2 (A7 0 7) hI ⟨by decide, by decide⟩ r_A7_0_7) (cwV 2 hts g_mc_X12_having_3 rfl rfl rfl (by decide +kernel) ⟨Nat.le_of_ble_eq_true rfl, Nat.le_of_ble_eq_true rfl⟩) hK hDD hA0 hP hS 0 12 wm0 rfl rfl hl.1 (Nat.le_of_ble_eq_true rfl) dX12_having_47 (fun z18 A19 H locs hw20 hP hS => ?_)
          obtain ⟨rfl, hw20⟩ := hw20
          have hw20 : -1 ≤ z18 ∧ z18 ≤ 3 := ⟨hw20.1, hw20.2.2.2.1 rfl⟩
          refine lv_goto (tgt := 54) hx hb dX12_having_50 (by decide) ?_
          exact J54_12 z18 _ _ _ (by omega) hP hS (lv_sub hl [0, 1] rfl)
  · have c5 : z1 = 0 := (i_eq0 (rb rz1 (by decide) (by decide))).mp c5
    exact RET _ _ _ _ _ ⟨hI, fr.trans (fr.rf) hf4 rfl rfl, trivial⟩ hP hS dX12_having_8

def ws_mc_X12_losing : List Cond := .code yX12_losing cX12_losing 2 none :: ([.methodLink RX12 394 yX12_counts, .instanceMethod yX12_counts, .selects RX12 yX12_counts yX12_counts, .initialized RX12, .code yX12_counts cX12_counts 2 (some .boolean), .fieldLink RX12 36 "StackKeysModel" "faultKind" "I", .fieldLink RX12 23 "StackKeysModel" "signAt" "I", .methodLink RX12 286 yX12_blame, .instanceMethod yX12_blame, .selects RX12 yX12_blame yX12_blame, .code yX12_blame cX12_blame 3 none, .fieldLink RX12 39 "StackKeysModel" "faultPlace" "I", .methodLink RX12 293 yX12_ahead, .instanceMethod yX12_ahead, .selects RX12 yX12_ahead yX12_ahead, .code yX12_ahead cX12_ahead 6 none, .fieldLink RX12 26 "StackKeysModel" "signEnd" "I", .fieldLink RX12 17 "StackKeysModel" "size" "I", .fieldLink RX12 7 "StackKeysModel" "tape" "[I", .fieldLink RX12 20 "StackKeysModel" "sign" "I", .methodLink RX12 279 yX12_isLetter, .static yX12_isLetter, .code yX12_isLetter cX12_isLetter 1 (some .boolean), .methodLink RX12 283 yX12_isDigit, .static yX12_isDigit, .code yX12_isDigit cX12_isDigit 1 (some .boolean), .fieldLink RX12 29 "StackKeysModel" "value" "I", .fieldLink RX12 32 "StackKeysModel" "word" "J", .methodLink RX12 387 yX12_isOwn, .instanceMethod yX12_isOwn, .selects RX12 yX12_isOwn yX12_isOwn, .code yX12_isOwn cX12_isOwn 3 (some .boolean), .constantLong RX12 296 (482854658917), .constantLong RX12 298 (1685024626), .constantLong RX12 300 (6451064), .constantLong RX12 302 (24948), .constantLong RX12 304 (7038329), .constantLong RX12 306 (26990), .constantLong RX12 308 (123581014175598), .constantLong RX12 310 (6840691), .constantLong RX12 312 (1936225652), .constantLong RX12 314 (25209), .constantLong RX12 316 (1819243380), .constantLong RX12 318 (499967946343), .constantLong RX12 320 (512735736947), .constantLong RX12 322 (1836413812), .constantLong RX12 324 (6447474), .constantLong RX12 326 (2003330414), .constantLong RX12 328 (28530), .constantLong RX12 330 (6385252), .constantLong RX12 332 (7237492), .constantLong RX12 334 (6384748), .constantLong RX12 336 (7825519), .constantLong RX12 338 (1936748404), .constantLong RX12 340 (1801812339), .constantLong RX12 342 (109317377451364), .constantLong RX12 344 (7170414), .constantLong RX12 346 (7168376), .methodLink RX12 390 yX12_named, .instanceMethod yX12_named, .selects RX12 yX12_named yX12_named, .code yX12_named cX12_named 6 (some .int), .fieldLink RX12 51 "StackKeysModel" "places" "[I", .fieldLink RX12 155 "StackKeysModel" "in" "I", .methodLink RX12 348 yX12_nameOf, .instanceMethod yX12_nameOf, .selects RX12 yX12_nameOf yX12_nameOf, .code yX12_nameOf cX12_nameOf 4 (some .long), .fieldLink RX12 107 "StackKeysModel" "thingName" "[J", .fieldLink RX12 54 "StackKeysModel" "placeName" "[J", .fieldLink RX12 61 "StackKeysModel" "doorName" "[J", .fieldLink RX12 83 "StackKeysModel" "keyName" "[J", .fieldLink RX12 98 "StackKeysModel" "personName" "[J", .fieldLink RX12 58 "StackKeysModel" "doors" "[I", .fieldLink RX12 80 "StackKeysModel" "keys" "[I", .fieldLink RX12 95 "StackKeysModel" "persons" "[I", .fieldLink RX12 104 "StackKeysModel" "things" "[I", .fieldLink RX12 77 "StackKeysModel" "isLost" "[Z", .methodLink RX12 406 yX12_asked, .instanceMethod yX12_asked, .selects RX12 yX12_asked yX12_asked, .code yX12_asked cX12_asked 3 (some .int)] ++ wsX120)
set_option maxRecDepth 20000 in
theorem g_mc_X12_losing_0 : GoodIn ws_mc_X12_losing (wsV RX12 394 RX12 yX12_counts ws_mc_X12_counts) := goodIn_r _ [1, 2, 3, 4, 5, 6, 7, 8, 9, 10, 4, 11, 12, 13, 14, 15, 16, 17, 18, 19, 20, 21, 22, 23, 24, 25, 26, 27, 28, 83, 84, 85, 86, 87, 88, 89, 90, 91, 92, 93, 94, 95, 96, 97, 98, 99, 100, 101, 102, 103, 104, 105, 106, 107, 108, 109, 110, 111, 112, 113, 114, 115, 116, 117, 118, 119, 120, 121, 122, 123, 124, 125, 126, 127, 128, 129, 130, 131, 132, 133, 134, 135, 136, 137, 138, 139, 140, 141, 142, 143, 144, 145, 146, 147, 148, 149, 150, 151, 152, 153, 154, 155, 156, 157, 158, 159, 160, 161, 162, 163, 164, 165, 166, 167] (by decide +kernel) (by decide +kernel)
set_option maxRecDepth 20000 in
theorem g_mc_X12_losing_1 : GoodIn ws_mc_X12_losing (wsV RX12 387 RX12 yX12_isOwn ws_mc_X12_isOwn) := goodIn_r _ [29, 30, 31, 4, 32, 33, 34, 35, 36, 37, 38, 39, 40, 41, 42, 43, 44, 45, 46, 47, 48, 49, 50, 51, 52, 53, 54, 55, 56, 57, 58] (by decide +kernel) (by decide +kernel)
set_option maxRecDepth 20000 in
theorem g_mc_X12_losing_2 : GoodIn ws_mc_X12_losing (wsV RX12 390 RX12 yX12_named ws_mc_X12_named) := goodIn_r _ [59, 60, 61, 4, 62, 63, 64, 65, 66, 67, 4, 68, 69, 70, 71, 72, 73, 74, 75, 76, 77, 83, 84, 85, 86, 87, 88, 89, 90, 91, 92, 93, 94, 95, 96, 97, 98, 99, 100, 101, 102, 103, 104, 105, 106, 107, 108, 109, 110, 111, 112, 113, 114, 115, 116, 117, 118, 119, 120, 121, 122, 123, 124, 125, 126, 127, 128, 129, 130, 131, 132, 133, 134, 135, 136, 137, 138, 139, 140, 141, 142, 143, 144, 145, 146, 147, 148, 149, 150, 151, 152, 153, 154, 155, 156, 157, 158, 159, 160, 161, 162, 163, 164, 165, 166, 167] (by decide +kernel) (by decide +kernel)
set_option maxRecDepth 20000 in
theorem g_mc_X12_losing_3 : GoodIn ws_mc_X12_losing (wsV RX12 286 RX12 yX12_blame ws_mc_X12_blame) := goodIn_r _ [8, 9, 10, 4, 11, 6, 12, 83, 84, 85, 86, 87, 88, 89, 90, 91, 92, 93, 94, 95, 96, 97, 98, 99, 100, 101, 102, 103, 104, 105, 106, 107, 108, 109, 110, 111, 112, 113, 114, 115, 116, 117, 118, 119, 120, 121, 122, 123, 124, 125, 126, 127, 128, 129, 130, 131, 132, 133, 134, 135, 136, 137, 138, 139, 140, 141, 142, 143, 144, 145, 146, 147, 148, 149, 150, 151, 152, 153, 154, 155, 156, 157, 158, 159, 160, 161, 162, 163, 164, 165, 166, 167] (by decide +kernel) (by decide +kernel)
set_option maxRecDepth 20000 in
theorem g_mc_X12_losing_4 : GoodIn ws_mc_X12_losing (wsV RX12 406 RX12 yX12_asked ws_mc_X12_asked) := goodIn_r _ [79, 80, 81, 4, 82, 6, 20, 28, 29, 30, 31, 4, 32, 33, 34, 35, 36, 37, 38, 39, 40, 41, 42, 43, 44, 45, 46, 47, 48, 49, 50, 51, 52, 53, 54, 55, 56, 57, 58, 7, 8, 9, 10, 11, 12, 59, 60, 61, 62, 63, 64, 65, 66, 67, 68, 69, 70, 71, 72, 73, 74, 75, 76, 77, 13, 14, 15, 16, 17, 18, 19, 21, 22, 23, 24, 25, 26, 27, 83, 84, 85, 86, 87, 88, 89, 90, 91, 92, 93, 94, 95, 96, 97, 98, 99, 100, 101, 102, 103, 104, 105, 106, 107, 108, 109, 110, 111, 112, 113, 114, 115, 116, 117, 118, 119, 120, 121, 122, 123, 124, 125, 126, 127, 128, 129, 130, 131, 132, 133, 134, 135, 136, 137, 138, 139, 140, 141, 142, 143, 144, 145, 146, 147, 148, 149, 150, 151, 152, 153, 154, 155, 156, 157, 158, 159, 160, 161, 162, 163, 164, 165, 166, 167] (by decide +kernel) (by decide +kernel)
set_option maxHeartbeats 4000000 in
set_option maxRecDepth 100000 in
theorem mc_X12_losing (l : Launch) (dC : Nat → ClassId) (dI : Nat → Nat → Nat) (cB cI cJ cZ cQ : ClassId) (q : Nat → Nat) (A : St) (hI : IM A) : XMv l yX12_losing ws_mc_X12_losing ({ frames := 3, cells := 0, slots := 0, locals := 70 } : Room) (dC, dI) (tyA cB cI cJ cZ cQ) (WM cI cJ cZ q) A [.ref (q 0)] (fun u => IM u ∧ fr [10] [3, 4, 5, 6, 7, 8, 9] A u ∧ (True)) := by
  refine x_metv (cc := cX12_losing) (maxL := 2) WM_adr (by decide +kernel) rfl (Nat.le_of_ble_eq_true rfl) (fun p e s m below meth c Q AS ls hx hb hml hown hts hK hDD hA0 hP hS hl RET => ?_)
  have hown : s.vm.findClass RX12 = some m.cls := hown
  have hl : lv_has ls 2 [(0, .ref (q 0))] := hl
  have hiX12 : ∀ w ∈ u_ws RX12 TX12 85, w ∈ ws_mc_X12_losing := fun w h => List.mem_cons_of_mem _ (List.mem_append_right _ h)
  obtain ⟨H, hHe⟩ : ∃ H : Heap, H = s.heap := ⟨_, rfl⟩
  rw [← hHe] at hP
  have hS : va_S AS s.heap H [] := by rw [hHe]; exact hS
  suffices hgo : ∀ locs : List Loc, va_S AS s.heap H locs → W p l e (headSpec ws_mc_X12_losing ({ frames := 3, cells := 0, slots := 0, locals := 70 } : Room)).room s m [.ref (q 0)].toArray below meth c H locs 0 0 Q (F0 m 0 ls []) by
    have := hgo [] hS
    rw [hHe] at this
    exact this
  clear hS hHe
  intro locs hS
  refine lv_aload_n hx hb dX12_losing_0 rfl (lv_at hl 0 rfl) ?_
  refine lv_iconst (v := iI 0) hx hb dX12_losing_1 (by decide +kernel) ?_
  refine x_calli (As := [.int (iI 0)]) (rest := []) ⟨hx, hb, hml, hown, hts⟩ (mc_X12_counts l dC dI cB cI cJ cZ cQ q _ 0 hI ⟨by decide, by decide⟩) (cwV 1 hts g_mc_X12_losing_0 rfl rfl rfl (by decide +kernel) ⟨Nat.le_of_ble_eq_true rfl, Nat.le_of_ble_eq_true rfl⟩) hK hDD hA0 hP hS 0 12 wm0 rfl rfl hl.1 (Nat.le_of_ble_eq_true rfl) dX12_losing_2 (fun z1 A2 H locs hw3 hP hS => ?_)
  obtain ⟨hI, hf4, hw3⟩ := hw3
  have r_A2_0_8 : (0 : Int) ≤ (A2 0 8) ∧ (A2 0 8) ≤ 5 := hI 0 8
  have rz1 : 0 ≤ z1 ∧ z1 ≤ 1 := hw3.1
  refine lv_if_ne (tgt := 9) hx hb dX12_losing_5 (by decide) (fun c5 => ?_) (fun c5 => ?_)
  · have c5 : ¬ z1 = 0 := mt (i_eq0 (rb rz1 (by decide) (by decide))).mpr c5
    refine lv_aload_n hx hb dX12_losing_9 rfl (lv_at hl 0 rfl) ?_
    refine va_get (D := (dC, dI)) (ci := 12) (v := .int (iI (A2 0 8))) (C := RX12) (T := TX12) (N := 85) hx hb hts hiX12 hown hK hP 0 wm0 rfl 8 (by decide) (hts _ (List.mem_of_getElem? (i := 6) rfl)) (fun _ h9 => h9) rfl dX12_losing_10 ?_
    have J48_8 : ∀ (z18 : Int) (H : Heap) (locs : List Loc) (ls : Array Slot), (-1 ≤ z18 ∧ z18 ≤ 9) → va_P (dC, dI) vwCl (WM cI cJ cZ q A2) H → va_S AS s.heap H locs → lv_has ls 2 [(0, .ref (q 0))] → W p l e (headSpec ws_mc_X12_losing ({ frames := 3, cells := 0, slots := 0, locals := 70 } : Room)).room s m [.ref (q 0)].toArray below meth c H locs 0 0 Q (F0 m 48 ls [.int (iI z18)]) := by
      intro z18 H locs ls f20 hP hS hl
      refine lv_istore_n (lv' := [(1, .int (iI z18)), (0, .ref (q 0))]) hx hb dX12_losing_48 rfl hl (by decide) rfl (fun ls hl => ?_)
      refine lv_iload_n hx hb dX12_losing_49 rfl (lv_at hl 0 rfl) ?_
      refine lv_iconst (v := iI (-1)) hx hb dX12_losing_50 (by decide +kernel) ?_
      have J80_22 : ∀ (A29 : St) (H : Heap) (locs : List Loc) (ls : Array Slot), IM A29 → fr [] [8, 9] A2 A29 → va_P (dC, dI) vwCl (WM cI cJ cZ q A29) H → va_S AS s.heap H locs → lv_has ls 2 [(1, .int (iI z18)), (0, .ref (q 0))] → W p l e (headSpec ws_mc_X12_losing ({ frames := 3, cells := 0, slots := 0, locals := 70 } : Room)).room s m [.ref (q 0)].toArray below meth c H locs 0 0 Q (F0 m 80 ls []) := by
        intro A29 H locs ls hI hj28 hP hS hl
        refine lv_aload_n hx hb dX12_losing_80 rfl (lv_at hl 1 rfl) ?_
        refine lv_iconst (v := iI 1) hx hb dX12_losing_81 (by decide +kernel) ?_
        refine x_calli (As := [.int (iI 1)]) (rest := []) ⟨hx, hb, hml, hown, hts⟩ (mc_X12_asked l dC dI cB cI cJ cZ cQ q _ 1 hI ⟨by decide, by decide⟩) (cwV 1 hts g_mc_X12_losing_4 rfl rfl rfl (by decide +kernel) ⟨Nat.le_of_ble_eq_true rfl, Nat.le_of_ble_eq_true rfl⟩) hK hDD hA0 hP hS 0 12 wm0 rfl rfl hl.1 (Nat.le_of_ble_eq_true rfl) dX12_losing_82 (fun z30 A31 H locs hw32 hP hS => ?_)
        obtain ⟨hI, hf33, hw32⟩ := hw32
        have hw32 : 0 ≤ z30 ∧ z30 ≤ 9 := ⟨hw32.1, hw32.2.1⟩
        refine lv_istore_n (lv' := [(1, .int (iI z30)), (0, .ref (q 0))]) hx hb dX12_losing_85 rfl hl (by decide) rfl (fun ls hl => ?_)
        refine lv_aload_n hx hb dX12_losing_86 rfl (lv_at hl 1 rfl) ?_
        refine va_get (D := (dC, dI)) (ci := 12) (v := .int (iI (A31 0 8))) (C := RX12) (T := TX12) (N := 85) hx hb hts hiX12 hown hK hP 0 wm0 rfl 8 (by decide) (hts _ (List.mem_of_getElem? (i := 6) rfl)) (fun _ h9 => h9) rfl dX12_losing_87 ?_
        have r_A31_0_8 : (0 : Int) ≤ (A31 0 8) ∧ (A31 0 8) ≤ 5 := hI 0 8
        refine lv_if_ne (tgt := 108) hx hb dX12_losing_90 (by decide) (fun c34 => ?_) (fun c34 => ?_)
        · have c34 : ¬ (A31 0 8) = 0 := mt (i_eq0 (rb r_A31_0_8 (by decide) (by decide))).mpr c34
          exact RET _ _ _ _ _ ⟨hI, fr.trans (fr.trans (fr.trans (fr.rf) hf4 rfl rfl) hj28 rfl rfl) hf33 rfl rfl, trivial⟩ hP hS dX12_losing_108
        · have c34 : (A31 0 8) = 0 := (i_eq0 (rb r_A31_0_8 (by decide) (by decide))).mp c34
          refine lv_aload_n hx hb dX12_losing_93 rfl (lv_at hl 1 rfl) ?_
          refine va_get (D := (dC, dI)) (ci := 12) (v := .ref (q 10)) (C := RX12) (T := TX12) (N := 85) hx hb hts hiX12 hown hK hP 0 wm0 rfl 21 (by decide) (hts _ (List.mem_of_getElem? (i := 78) rfl)) (fun _ h9 => h9) rfl dX12_losing_94 ?_
          refine lv_bipush (v := iI 10) hx hb dX12_losing_97 (by decide +kernel) ?_
          refine lv_aload_n hx hb dX12_losing_99 rfl (lv_at hl 1 rfl) ?_
          have e_A2_47 : A2 0 47 = (A 0 47) := (hf4.2 47 rfl)
          have e_A29_47 : A29 0 47 = (A 0 47) := (hj28.2 47 rfl).trans e_A2_47
          have e_A31_47 : A31 0 47 = (A 0 47) := (hf33.2 47 rfl).trans e_A29_47
          refine va_get (D := (dC, dI)) (ci := 12) (v := .int (iI (A31 0 47))) (C := RX12) (T := TX12) (N := 85) hx hb hts hiX12 hown hK hP 0 wm0 rfl 47 (by decide) (hts _ (List.mem_of_getElem? (i := 64) rfl)) (fun _ h9 => h9) rfl dX12_losing_100 ?_
          refine tp_i (y := iI (A 0 47)) (congrArg iI e_A31_47) ?_
          have r_A_0_47 : (0 : Int) ≤ (A 0 47) ∧ (A 0 47) ≤ 1 := by rw [← e_A31_47]; exact hI 0 47
          refine x_mulv (v := 10 * (A 0 47)) hx hb dX12_losing_103 (by omega) ?_
          refine lv_iload_n hx hb dX12_losing_104 rfl (lv_at hl 0 rfl) ?_
          refine x_addv (v := 10 * (A 0 47) + z30) hx hb dX12_losing_105 (by omega) ?_
          refine lv_iconst (v := iI 1) hx hb dX12_losing_106 (by decide +kernel) ?_
          refine x_zast hx hb hK hP hDD hS 10 3 wm10 rfl (by omega) (by decide) dX12_losing_107 (by omega) ws10 (fun H locs hP hS => ?_)
          have hI := hI.st (j := 10) (i := (10 * (A 0 47) + z30).toNat) (v := 1) (show (0 : Int) ≤ 1 ∧ 1 ≤ 1 from (by omega))
          exact RET _ _ _ _ _ ⟨hI, fr.st (fr.trans (fr.trans (fr.trans (fr.rf) hf4 rfl rfl) hj28 rfl rfl) hf33 rfl rfl) (by decide) rfl, trivial⟩ hP hS dX12_losing_108
      refine lv_icmp_eq (tgt := 80) hx hb dX12_losing_51 (by decide) (fun c21 => ?_) (fun c21 => ?_)
      · have c21 : z18 = (-1) := (i_eq (rb f20 (by decide) (by decide)) ⟨by decide, by decide⟩).mp c21
        exact J80_22 _ _ _ _ hI (fr.rf) hP hS (lv_sub hl [0, 1] rfl)
      · have c21 : ¬ z18 = (-1) := mt (i_eq (rb f20 (by decide) (by decide)) ⟨by decide, by decide⟩).mpr c21
        refine lv_aload_n hx hb dX12_losing_54 rfl (lv_at hl 1 rfl) ?_
        refine va_get (D := (dC, dI)) (ci := 12) (v := .ref (q 10)) (C := RX12) (T := TX12) (N := 85) hx hb hts hiX12 hown hK hP 0 wm0 rfl 21 (by decide) (hts _ (List.mem_of_getElem? (i := 78) rfl)) (fun _ h9 => h9) rfl dX12_losing_55 ?_
        refine lv_bipush (v := iI 10) hx hb dX12_losing_58 (by decide +kernel) ?_
        refine lv_aload_n hx hb dX12_losing_60 rfl (lv_at hl 1 rfl) ?_
        have e_A2_47 : A2 0 47 = (A 0 47) := (hf4.2 47 rfl)
        refine va_get (D := (dC, dI)) (ci := 12) (v := .int (iI (A2 0 47))) (C := RX12) (T := TX12) (N := 85) hx hb hts hiX12 hown hK hP 0 wm0 rfl 47 (by decide) (hts _ (List.mem_of_getElem? (i := 64) rfl)) (fun _ h9 => h9) rfl dX12_losing_61 ?_
        refine tp_i (y := iI (A 0 47)) (congrArg iI e_A2_47) ?_
        have r_A_0_47 : (0 : Int) ≤ (A 0 47) ∧ (A 0 47) ≤ 1 := by rw [← e_A2_47]; exact hI 0 47
        refine x_mulv (v := 10 * (A 0 47)) hx hb dX12_losing_64 (by omega) ?_
        refine lv_iload_n hx hb dX12_losing_65 rfl (lv_at hl 0 rfl) ?_
        refine x_addv (v := 10 * (A 0 47) + z18) hx hb dX12_losing_66 (by omega) ?_
        have a_A2_10 : A2 10 = A 10 := (hf4.1 10 (by decide) rfl)
        refine x_zald hx hb hK hP 10 3 wm10 rfl (by omega) (by decide) dX12_losing_67 (fun z23 hz23 => ?_)
        have rz23 : (0 : Int) ≤ z23 ∧ z23 ≤ 1 := by rw [hz23]; exact hI 10 _
        have hz23 : z23 = A 10 (10 * (A 0 47) + z18).toNat := hz23.trans (congrFun a_A2_10 _)
        refine lv_if_eq (tgt := 80) hx hb dX12_losing_68 (by decide) (fun c24 => ?_) (fun c24 => ?_)
        · have c24 : z23 = 0 := (i_eq0 (rb rz23 (by decide) (by decide))).mp c24
          exact J80_22 _ _ _ _ hI (fr.rf) hP hS (lv_sub hl [0, 1] rfl)
        · have c24 : ¬ z23 = 0 := mt (i_eq0 (rb rz23 (by decide) (by decide))).mpr c24
          refine lv_aload_n hx hb dX12_losing_71 rfl (lv_at hl 1 rfl) ?_
          refine lv_iconst (v := iI 3) hx hb dX12_losing_72 (by decide +kernel) ?_
          refine lv_aload_n hx hb dX12_losing_73 rfl (lv_at hl 1 rfl) ?_
          refine va_get (D := (dC, dI)) (ci := 12) (v := .int (iI (A2 0 4))) (C := RX12) (T := TX12) (N := 85) hx hb hts hiX12 hown hK hP 0 wm0 rfl 4 (by decide) (hts _ (List.mem_of_getElem? (i := 7) rfl)) (fun _ h9 => h9) rfl dX12_losing_74 ?_
          have r_A2_0_4 : (0 : Int) ≤ (A2 0 4) ∧ (A2 0 4) ≤ 1600 := hI 0 4
          refine x_callv (As := [.int (iI 3), .int (iI (A2 0 4))]) (rest := []) ⟨hx, hb, hml, hown, hts⟩ (mc_X12_blame l dC dI cB cI cJ cZ cQ q _ 3 (A2 0 4) hI ⟨by decide, by decide⟩ r_A2_0_4) (cwV 2 hts g_mc_X12_losing_3 rfl rfl rfl (by decide +kernel) ⟨Nat.le_of_ble_eq_true rfl, Nat.le_of_ble_eq_true rfl⟩) hK hDD hA0 hP hS 0 12 wm0 rfl rfl hl.1 (Nat.le_of_ble_eq_true rfl) dX12_losing_77 (fun A25 H locs hw26 hP hS => ?_)
          obtain ⟨hI, hf27, hw26⟩ := hw26
          have r_A25_0_8 : (0 : Int) ≤ (A25 0 8) ∧ (A25 0 8) ≤ 5 := hI 0 8
          exact J80_22 _ _ _ _ hI (fr.trans (fr.rf) hf27 rfl rfl) hP hS (lv_sub hl [0, 1] rfl)
    have J47_7 : ∀ (H : Heap) (locs : List Loc) (ls : Array Slot), va_P (dC, dI) vwCl (WM cI cJ cZ q A2) H → va_S AS s.heap H locs → lv_has ls 2 [(0, .ref (q 0))] → W p l e (headSpec ws_mc_X12_losing ({ frames := 3, cells := 0, slots := 0, locals := 70 } : Room)).room s m [.ref (q 0)].toArray below meth c H locs 0 0 Q (F0 m 47 ls []) := by
      intro H locs ls hP hS hl
      refine lv_iconst (v := iI (-1)) hx hb dX12_losing_47 (by decide +kernel) ?_
      exact J48_8 (-1) _ _ _ (by omega) hP hS (lv_sub hl [0] rfl)
    refine lv_if_ne (tgt := 47) hx hb dX12_losing_13 (by decide) (fun c6 => ?_) (fun c6 => ?_)
    · have c6 : ¬ (A2 0 8) = 0 := mt (i_eq0 (rb r_A2_0_8 (by decide) (by decide))).mpr c6
      exact J47_7 _ _ _ hP hS (lv_sub hl [0] rfl)
    · have c6 : (A2 0 8) = 0 := (i_eq0 (rb r_A2_0_8 (by decide) (by decide))).mp c6
      refine lv_aload_n hx hb dX12_losing_16 rfl (lv_at hl 0 rfl) ?_
      refine va_get (D := (dC, dI)) (ci := 12) (v := .int (iI (A2 0 3))) (C := RX12) (T := TX12) (N := 85) hx hb hts hiX12 hown hK hP 0 wm0 rfl 3 (by decide) (hts _ (List.mem_of_getElem? (i := 20) rfl)) (fun _ h9 => h9) rfl dX12_losing_17 ?_
      have r_A2_0_3 : (0 : Int) ≤ (A2 0 3) ∧ (A2 0 3) ≤ 3 := hI 0 3
      refine lv_iconst (v := iI 1) hx hb dX12_losing_20 (by decide +kernel) ?_
      refine lv_icmp_ne (tgt := 47) hx hb dX12_losing_21 (by decide) (fun c9 => ?_) (fun c9 => ?_)
      · have c9 : ¬ (A2 0 3) = 1 := mt (i_eq (rb r_A2_0_3 (by decide) (by decide)) ⟨by decide, by decide⟩).mpr c9
        exact J47_7 _ _ _ hP hS (lv_sub hl [0] rfl)
      · have c9 : (A2 0 3) = 1 := (i_eq (rb r_A2_0_3 (by decide) (by decide)) ⟨by decide, by decide⟩).mp c9
        refine lv_aload_n hx hb dX12_losing_24 rfl (lv_at hl 0 rfl) ?_
        refine lv_aload_n hx hb dX12_losing_25 rfl (lv_at hl 0 rfl) ?_
        refine va_get (D := (dC, dI)) (ci := 12) (v := .long (jI (A2 0 7))) (C := RX12) (T := TX12) (N := 85) hx hb hts hiX12 hown hK hP 0 wm0 rfl 7 (by decide) (hts _ (List.mem_of_getElem? (i := 28) rfl)) (fun _ h9 => h9) rfl dX12_losing_26 ?_
        have r_A2_0_7 : (-9223372036854775808 : Int) ≤ (A2 0 7) ∧ (A2 0 7) ≤ 9223372036854775807 := hI 0 7
        refine x_calli (As := [.long (jI (A2 0 7))]) (rest := []) ⟨hx, hb, hml, hown, hts⟩ (mc_X12_isOwn l dC dI cB cI cJ cZ cQ q _ (A2 0 7) hI r_A2_0_7) (cwV 1 hts g_mc_X12_losing_1 rfl rfl rfl (by decide +kernel) ⟨Nat.le_of_ble_eq_true rfl, Nat.le_of_ble_eq_true rfl⟩) hK hDD hA0 hP hS 0 12 wm0 rfl rfl hl.1 (Nat.le_of_ble_eq_true rfl) dX12_losing_29 (fun z10 A11 H locs hw12 hP hS => ?_)
        obtain ⟨rfl, hw12⟩ := hw12
        refine lv_if_ne (tgt := 47) hx hb dX12_losing_32 (by decide) (fun c13 => ?_) (fun c13 => ?_)
        · have c13 : ¬ z10 = 0 := mt (i_eq0 (rb hw12 (by decide) (by decide))).mpr c13
          exact J47_7 _ _ _ hP hS (lv_sub hl [0] rfl)
        · have c13 : z10 = 0 := (i_eq0 (rb hw12 (by decide) (by decide))).mp c13
          refine lv_aload_n hx hb dX12_losing_35 rfl (lv_at hl 0 rfl) ?_
          refine lv_iconst (v := iI 1) hx hb dX12_losing_36 (by decide +kernel) ?_
          refine lv_aload_n hx hb dX12_losing_37 rfl (lv_at hl 0 rfl) ?_
          refine va_get (D := (dC, dI)) (ci := 12) (v := .long (jI (A2 0 7))) (C := RX12) (T := TX12) (N := 85) hx hb hts hiX12 hown hK hP 0 wm0 rfl 7 (by decide) (hts _ (List.mem_of_getElem? (i := 28) rfl)) (fun _ h9 => h9) rfl dX12_losing_38 ?_
          refine x_calli (As := [.int (iI 1), .long (jI (A2 0 7))]) (rest := []) ⟨hx, hb, hml, hown, hts⟩ (mc_X12_named l dC dI cB cI cJ cZ cQ q _ 1 (A2 0 7) hI ⟨by decide, by decide⟩ r_A2_0_7) (cwV 2 hts g_mc_X12_losing_2 rfl rfl rfl (by decide +kernel) ⟨Nat.le_of_ble_eq_true rfl, Nat.le_of_ble_eq_true rfl⟩) hK hDD hA0 hP hS 0 12 wm0 rfl rfl hl.1 (Nat.le_of_ble_eq_true rfl) dX12_losing_41 (fun z14 A15 H locs hw16 hP hS => ?_)
          obtain ⟨rfl, hw16⟩ := hw16
          have hw16 : -1 ≤ z14 ∧ z14 ≤ 9 := ⟨hw16.1, hw16.2.1⟩
          refine lv_goto (tgt := 48) hx hb dX12_losing_44 (by decide) ?_
          exact J48_8 z14 _ _ _ (by omega) hP hS (lv_sub hl [0] rfl)
  · have c5 : z1 = 0 := (i_eq0 (rb rz1 (by decide) (by decide))).mp c5
    exact RET _ _ _ _ _ ⟨hI, fr.trans (fr.rf) hf4 rfl rfl, trivial⟩ hP hS dX12_losing_8

def ws_mc_X12_thing : List Cond := .code yX12_thing cX12_thing 2 none :: ([.fieldLink RX12 104 "StackKeysModel" "things" "[I", .fieldLink RX12 155 "StackKeysModel" "in" "I", .methodLink RX12 394 yX12_counts, .instanceMethod yX12_counts, .selects RX12 yX12_counts yX12_counts, .initialized RX12, .code yX12_counts cX12_counts 2 (some .boolean), .fieldLink RX12 36 "StackKeysModel" "faultKind" "I", .fieldLink RX12 23 "StackKeysModel" "signAt" "I", .methodLink RX12 286 yX12_blame, .instanceMethod yX12_blame, .selects RX12 yX12_blame yX12_blame, .code yX12_blame cX12_blame 3 none, .fieldLink RX12 39 "StackKeysModel" "faultPlace" "I", .methodLink RX12 293 yX12_ahead, .instanceMethod yX12_ahead, .selects RX12 yX12_ahead yX12_ahead, .code yX12_ahead cX12_ahead 6 none, .fieldLink RX12 26 "StackKeysModel" "signEnd" "I", .fieldLink RX12 17 "StackKeysModel" "size" "I", .fieldLink RX12 7 "StackKeysModel" "tape" "[I", .fieldLink RX12 20 "StackKeysModel" "sign" "I", .methodLink RX12 279 yX12_isLetter, .static yX12_isLetter, .code yX12_isLetter cX12_isLetter 1 (some .boolean), .methodLink RX12 283 yX12_isDigit, .static yX12_isDigit, .code yX12_isDigit cX12_isDigit 1 (some .boolean), .fieldLink RX12 29 "StackKeysModel" "value" "I", .fieldLink RX12 32 "StackKeysModel" "word" "J", .fieldLink RX12 107 "StackKeysModel" "thingName" "[J", .methodLink RX12 398 yX12_fresh, .instanceMethod yX12_fresh, .selects RX12 yX12_fresh yX12_fresh, .code yX12_fresh cX12_fresh 3 (some .long), .methodLink RX12 387 yX12_isOwn, .instanceMethod yX12_isOwn, .selects RX12 yX12_isOwn yX12_isOwn, .code yX12_isOwn cX12_isOwn 3 (some .boolean), .constantLong RX12 296 (482854658917), .constantLong RX12 298 (1685024626), .constantLong RX12 300 (6451064), .constantLong RX12 302 (24948), .constantLong RX12 304 (7038329), .constantLong RX12 306 (26990), .constantLong RX12 308 (123581014175598), .constantLong RX12 310 (6840691), .constantLong RX12 312 (1936225652), .constantLong RX12 314 (25209), .constantLong RX12 316 (1819243380), .constantLong RX12 318 (499967946343), .constantLong RX12 320 (512735736947), .constantLong RX12 322 (1836413812), .constantLong RX12 324 (6447474), .constantLong RX12 326 (2003330414), .constantLong RX12 328 (28530), .constantLong RX12 330 (6385252), .constantLong RX12 332 (7237492), .constantLong RX12 334 (6384748), .constantLong RX12 336 (7825519), .constantLong RX12 338 (1936748404), .constantLong RX12 340 (1801812339), .constantLong RX12 342 (109317377451364), .constantLong RX12 344 (7170414), .constantLong RX12 346 (7168376), .methodLink RX12 390 yX12_named, .instanceMethod yX12_named, .selects RX12 yX12_named yX12_named, .code yX12_named cX12_named 6 (some .int), .fieldLink RX12 51 "StackKeysModel" "places" "[I", .methodLink RX12 348 yX12_nameOf, .instanceMethod yX12_nameOf, .selects RX12 yX12_nameOf yX12_nameOf, .code yX12_nameOf cX12_nameOf 4 (some .long), .fieldLink RX12 54 "StackKeysModel" "placeName" "[J", .fieldLink RX12 61 "StackKeysModel" "doorName" "[J", .fieldLink RX12 83 "StackKeysModel" "keyName" "[J", .fieldLink RX12 98 "StackKeysModel" "personName" "[J", .fieldLink RX12 58 "StackKeysModel" "doors" "[I", .fieldLink RX12 80 "StackKeysModel" "keys" "[I", .fieldLink RX12 95 "StackKeysModel" "persons" "[I", .fieldLink RX12 110 "StackKeysModel" "thingAt" "[I", .methodLink RX12 415 yX12_within, .instanceMethod yX12_within, .selects RX12 yX12_within yX12_within, .code yX12_within cX12_within 2 (some .int), .methodLink RX12 402 yX12_must_, .instanceMethod yX12_must_, .selects RX12 yX12_must_ yX12_must_, .code yX12_must_ cX12_must_ 3 none, .methodLink RX12 368 yX12_isWord, .instanceMethod yX12_isWord, .selects RX12 yX12_isWord yX12_isWord, .code yX12_isWord cX12_isWord 3 (some .boolean), .fieldLink RX12 70 "StackKeysModel" "isBox" "[Z", .methodLink RX12 406 yX12_asked, .instanceMethod yX12_asked, .selects RX12 yX12_asked yX12_asked, .code yX12_asked cX12_asked 3 (some .int)] ++ wsX120)
set_option maxRecDepth 20000 in
theorem g_mc_X12_thing_0 : GoodIn ws_mc_X12_thing (wsV RX12 394 RX12 yX12_counts ws_mc_X12_counts) := goodIn_r _ [3, 4, 5, 6, 7, 8, 9, 10, 11, 12, 6, 13, 14, 15, 16, 17, 18, 19, 20, 21, 22, 23, 24, 25, 26, 27, 28, 29, 30, 100, 101, 102, 103, 104, 105, 106, 107, 108, 109, 110, 111, 112, 113, 114, 115, 116, 117, 118, 119, 120, 121, 122, 123, 124, 125, 126, 127, 128, 129, 130, 131, 132, 133, 134, 135, 136, 137, 138, 139, 140, 141, 142, 143, 144, 145, 146, 147, 148, 149, 150, 151, 152, 153, 154, 155, 156, 157, 158, 159, 160, 161, 162, 163, 164, 165, 166, 167, 168, 169, 170, 171, 172, 173, 174, 175, 176, 177, 178, 179, 180, 181, 182, 183, 184] (by decide +kernel) (by decide +kernel)
set_option maxRecDepth 20000 in
theorem g_mc_X12_thing_1 : GoodIn ws_mc_X12_thing (wsV RX12 398 RX12 yX12_fresh ws_mc_X12_fresh) := goodIn_r _ [32, 33, 34, 6, 35, 8, 22, 30, 36, 37, 38, 6, 39, 40, 41, 42, 43, 44, 45, 46, 47, 48, 49, 50, 51, 52, 53, 54, 55, 56, 57, 58, 59, 60, 61, 62, 63, 64, 65, 9, 10, 11, 12, 13, 14, 66, 67, 68, 69, 70, 2, 71, 72, 73, 74, 31, 75, 76, 77, 78, 79, 80, 81, 1, 15, 16, 17, 18, 19, 20, 21, 23, 24, 25, 26, 27, 28, 29, 100, 101, 102, 103, 104, 105, 106, 107, 108, 109, 110, 111, 112, 113, 114, 115, 116, 117, 118, 119, 120, 121, 122, 123, 124, 125, 126, 127, 128, 129, 130, 131, 132, 133, 134, 135, 136, 137, 138, 139, 140, 141, 142, 143, 144, 145, 146, 147, 148, 149, 150, 151, 152, 153, 154, 155, 156, 157, 158, 159, 160, 161, 162, 163, 164, 165, 166, 167, 168, 169, 170, 171, 172, 173, 174, 175, 176, 177, 178, 179, 180, 181, 182, 183, 184] (by decide +kernel) (by decide +kernel)
set_option maxRecDepth 20000 in
theorem g_mc_X12_thing_2 : GoodIn ws_mc_X12_thing (wsV RX12 415 RX12 yX12_within ws_mc_X12_within) := goodIn_r _ [83, 84, 85, 6, 86, 45, 87, 88, 89, 6, 90, 8, 91, 92, 93, 94, 22, 30, 9, 10, 11, 12, 13, 14, 15, 16, 17, 18, 19, 20, 21, 23, 24, 25, 26, 27, 28, 29, 36, 37, 38, 39, 40, 41, 42, 43, 44, 46, 47, 48, 49, 50, 51, 52, 53, 54, 55, 56, 57, 58, 59, 60, 61, 62, 63, 64, 65, 66, 67, 68, 69, 70, 2, 71, 72, 73, 74, 31, 75, 76, 77, 78, 79, 80, 81, 1, 95, 96, 97, 98, 99, 100, 101, 102, 103, 104, 105, 106, 107, 108, 109, 110, 111, 112, 113, 114, 115, 116, 117, 118, 119, 120, 121, 122, 123, 124, 125, 126, 127, 128, 129, 130, 131, 132, 133, 134, 135, 136, 137, 138, 139, 140, 141, 142, 143, 144, 145, 146, 147, 148, 149, 150, 151, 152, 153, 154, 155, 156, 157, 158, 159, 160, 161, 162, 163, 164, 165, 166, 167, 168, 169, 170, 171, 172, 173, 174, 175, 176, 177, 178, 179, 180, 181, 182, 183, 184] (by decide +kernel) (by decide +kernel)
set_option maxHeartbeats 4000000 in
set_option maxRecDepth 100000 in
theorem mc_X12_thing (l : Launch) (dC : Nat → ClassId) (dI : Nat → Nat → Nat) (cB cI cJ cZ cQ : ClassId) (q : Nat → Nat) (A : St) (hI : IM A) : XMv l yX12_thing ws_mc_X12_thing ({ frames := 4, cells := 0, slots := 0, locals := 91 } : Room) (dC, dI) (tyA cB cI cJ cZ cQ) (WM cI cJ cZ q) A [.ref (q 0)] (fun u => IM u ∧ fr [19, 20, 21] [3, 4, 5, 6, 7, 8, 9] A u ∧ (True)) := by
  refine x_metv (cc := cX12_thing) (maxL := 2) WM_adr (by decide +kernel) rfl (Nat.le_of_ble_eq_true rfl) (fun p e s m below meth c Q AS ls hx hb hml hown hts hK hDD hA0 hP hS hl RET => ?_)
  have hown : s.vm.findClass RX12 = some m.cls := hown
  have hl : lv_has ls 2 [(0, .ref (q 0))] := hl
  have hiX12 : ∀ w ∈ u_ws RX12 TX12 85, w ∈ ws_mc_X12_thing := fun w h => List.mem_cons_of_mem _ (List.mem_append_right _ h)
  obtain ⟨H, hHe⟩ : ∃ H : Heap, H = s.heap := ⟨_, rfl⟩
  rw [← hHe] at hP
  have hS : va_S AS s.heap H [] := by rw [hHe]; exact hS
  suffices hgo : ∀ locs : List Loc, va_S AS s.heap H locs → W p l e (headSpec ws_mc_X12_thing ({ frames := 4, cells := 0, slots := 0, locals := 91 } : Room)).room s m [.ref (q 0)].toArray below meth c H locs 0 0 Q (F0 m 0 ls []) by
    have := hgo [] hS
    rw [hHe] at this
    exact this
  clear hS hHe
  intro locs hS
  refine lv_aload_n hx hb dX12_thing_0 rfl (lv_at hl 0 rfl) ?_
  refine lv_aload_n hx hb dX12_thing_1 rfl (lv_at hl 0 rfl) ?_
  refine va_get (D := (dC, dI)) (ci := 12) (v := .ref (q 19)) (C := RX12) (T := TX12) (N := 85) hx hb hts hiX12 hown hK hP 0 wm0 rfl 30 (by decide) (hts _ (List.mem_of_getElem? (i := 1) rfl)) (fun _ h9 => h9) rfl dX12_thing_2 ?_
  refine lv_aload_n hx hb dX12_thing_5 rfl (lv_at hl 0 rfl) ?_
  refine va_get (D := (dC, dI)) (ci := 12) (v := .int (iI (A 0 47))) (C := RX12) (T := TX12) (N := 85) hx hb hts hiX12 hown hK hP 0 wm0 rfl 47 (by decide) (hts _ (List.mem_of_getElem? (i := 2) rfl)) (fun _ h9 => h9) rfl dX12_thing_6 ?_
  have r_A_0_47 : (0 : Int) ≤ (A 0 47) ∧ (A 0 47) ≤ 1 := hI 0 47
  refine x_iald hx hb hK hP 19 1 wm19 rfl (by omega) (by decide) dX12_thing_9 (fun z1 hz1 => ?_)
  have rz1 : (0 : Int) ≤ z1 ∧ z1 ≤ 4 := by rw [hz1]; exact hI 19 _
  have hz1 : z1 = A 19 ((A 0 47)).toNat := hz1
  refine lv_iconst (v := iI 4) hx hb dX12_thing_10 (by decide +kernel) ?_
  have J19_3 : ∀ (z4 : Int) (H : Heap) (locs : List Loc) (ls : Array Slot), (0 ≤ z4 ∧ z4 ≤ 1) → ((z4 = 0 ∧ ¬ z1 = 4) ∨ (z4 = 1 ∧ z1 = 4)) → va_P (dC, dI) vwCl (WM cI cJ cZ q A) H → va_S AS s.heap H locs → lv_has ls 2 [(0, .ref (q 0))] → W p l e (headSpec ws_mc_X12_thing ({ frames := 4, cells := 0, slots := 0, locals := 91 } : Room)).room s m [.ref (q 0)].toArray below meth c H locs 0 0 Q (F0 m 19 ls [.int (iI z4), .ref (q 0)]) := by
    intro z4 H locs ls f6 f7 hP hS hl
    refine x_calli (As := [.int (iI z4)]) (rest := []) ⟨hx, hb, hml, hown, hts⟩ (mc_X12_counts l dC dI cB cI cJ cZ cQ q _ z4 hI f6) (cwV 1 hts g_mc_X12_thing_0 rfl rfl rfl (by decide +kernel) ⟨Nat.le_of_ble_eq_true rfl, Nat.le_of_ble_eq_true rfl⟩) hK hDD hA0 hP hS 0 12 wm0 rfl rfl hl.1 (Nat.le_of_ble_eq_true rfl) dX12_thing_19 (fun z8 A9 H locs hw10 hP hS => ?_)
    obtain ⟨hI, hf11, hw10⟩ := hw10
    have r_A9_0_8 : (0 : Int) ≤ (A9 0 8) ∧ (A9 0 8) ≤ 5 := hI 0 8
    have rz8 : 0 ≤ z8 ∧ z8 ≤ 1 := hw10.1
    refine lv_if_ne (tgt := 26) hx hb dX12_thing_22 (by decide) (fun c12 => ?_) (fun c12 => ?_)
    · have c12 : ¬ z8 = 0 := mt (i_eq0 (rb rz8 (by decide) (by decide))).mpr c12
      refine lv_iconst (v := iI 4) hx hb dX12_thing_26 (by decide +kernel) ?_
      refine lv_aload_n hx hb dX12_thing_27 rfl (lv_at hl 0 rfl) ?_
      have e_A9_47 : A9 0 47 = (A 0 47) := (hf11.2 47 rfl)
      refine va_get (D := (dC, dI)) (ci := 12) (v := .int (iI (A9 0 47))) (C := RX12) (T := TX12) (N := 85) hx hb hts hiX12 hown hK hP 0 wm0 rfl 47 (by decide) (hts _ (List.mem_of_getElem? (i := 2) rfl)) (fun _ h9 => h9) rfl dX12_thing_28 ?_
      refine tp_i (y := iI (A 0 47)) (congrArg iI e_A9_47) ?_
      refine x_mulv (v := 4 * (A 0 47)) hx hb dX12_thing_31 (by omega) ?_
      refine lv_aload_n hx hb dX12_thing_32 rfl (lv_at hl 0 rfl) ?_
      refine va_get (D := (dC, dI)) (ci := 12) (v := .ref (q 19)) (C := RX12) (T := TX12) (N := 85) hx hb hts hiX12 hown hK hP 0 wm0 rfl 30 (by decide) (hts _ (List.mem_of_getElem? (i := 1) rfl)) (fun _ h9 => h9) rfl dX12_thing_33 ?_
      refine lv_aload_n hx hb dX12_thing_36 rfl (lv_at hl 0 rfl) ?_
      refine va_get (D := (dC, dI)) (ci := 12) (v := .int (iI (A9 0 47))) (C := RX12) (T := TX12) (N := 85) hx hb hts hiX12 hown hK hP 0 wm0 rfl 47 (by decide) (hts _ (List.mem_of_getElem? (i := 2) rfl)) (fun _ h9 => h9) rfl dX12_thing_37 ?_
      refine tp_i (y := iI (A 0 47)) (congrArg iI e_A9_47) ?_
      have a_A9_19 : A9 19 = A 19 := (hf11.1 19 (by decide) rfl)
      refine x_iald hx hb hK hP 19 1 wm19 rfl (by omega) (by decide) dX12_thing_40 (fun z13 hz13 => ?_)
      have rz13 : (0 : Int) ≤ z13 ∧ z13 ≤ 4 := by rw [hz13]; exact hI 19 _
      have hz13 : z13 = A 19 ((A 0 47)).toNat := hz13.trans (congrFun a_A9_19 _)
      have ez13 : z13 = z1 := hz13.trans hz1.symm
      refine x_addv (v := 4 * (A 0 47) + z13) hx hb dX12_thing_41 (by omega) ?_
      refine lv_istore_n (lv' := [(1, .int (iI (4 * (A 0 47) + z13))), (0, .ref (q 0))]) hx hb dX12_thing_42 rfl hl (by decide) rfl (fun ls hl => ?_)
      refine lv_aload_n hx hb dX12_thing_43 rfl (lv_at hl 1 rfl) ?_
      refine va_get (D := (dC, dI)) (ci := 12) (v := .ref (q 20)) (C := RX12) (T := TX12) (N := 85) hx hb hts hiX12 hown hK hP 0 wm0 rfl 31 (by decide) (hts _ (List.mem_of_getElem? (i := 31) rfl)) (fun _ h9 => h9) rfl dX12_thing_44 ?_
      refine lv_iload_n hx hb dX12_thing_47 rfl (lv_at hl 0 rfl) ?_
      refine lv_aload_n hx hb dX12_thing_48 rfl (lv_at hl 1 rfl) ?_
      refine x_calll (As := []) (rest := [.int (iI (4 * (A 0 47) + z13)), .ref (q 20)]) ⟨hx, hb, hml, hown, hts⟩ (mc_X12_fresh l dC dI cB cI cJ cZ cQ q _ hI) (cwV 0 hts g_mc_X12_thing_1 rfl rfl rfl (by decide +kernel) ⟨Nat.le_of_ble_eq_true rfl, Nat.le_of_ble_eq_true rfl⟩) hK hDD hA0 hP hS 0 12 wm0 rfl rfl hl.1 (Nat.le_of_ble_eq_true rfl) dX12_thing_49 (fun z14 A15 H locs hw16 hP hS => ?_)
      obtain ⟨hI, hf17, hw16⟩ := hw16
      refine x_last hx hb hK hP hDD hS 20 2 wm20 rfl (by omega) (by decide) dX12_thing_52 ws20 (fun H locs hP hS => ?_)
      have hI := hI.st (j := 20) (i := (4 * (A 0 47) + z13).toNat) (v := z14) (show (-9223372036854775808 : Int) ≤ z14 ∧ z14 ≤ 9223372036854775807 from (by omega))
      refine lv_aload_n hx hb dX12_thing_53 rfl (lv_at hl 1 rfl) ?_
      refine va_get (D := (dC, dI)) (ci := 12) (v := .ref (q 21)) (C := RX12) (T := TX12) (N := 85) hx hb hts hiX12 hown hK hP 0 wm0 rfl 32 (by decide) (hts _ (List.mem_of_getElem? (i := 82) rfl)) (fun _ h9 => h9) rfl dX12_thing_54 ?_
      refine lv_iload_n hx hb dX12_thing_57 rfl (lv_at hl 0 rfl) ?_
      refine lv_aload_n hx hb dX12_thing_58 rfl (lv_at hl 1 rfl) ?_
      obtain ⟨A18, hA18⟩ : ∃ A18 : St, A18 = (stA A15 20 (4 * (A 0 47) + z13).toNat z14) := ⟨_, rfl⟩
      rw [← hA18] at hP hI
      refine x_calli (As := []) (rest := [.int (iI (4 * (A 0 47) + z13)), .ref (q 21)]) ⟨hx, hb, hml, hown, hts⟩ (mc_X12_within l dC dI cB cI cJ cZ cQ q _ hI) (cwV 0 hts g_mc_X12_thing_2 rfl rfl rfl (by decide +kernel) ⟨Nat.le_of_ble_eq_true rfl, Nat.le_of_ble_eq_true rfl⟩) hK hDD hA0 hP hS 0 12 wm0 rfl rfl hl.1 (Nat.le_of_ble_eq_true rfl) dX12_thing_59 (fun z19 A20 H locs hw21 hP hS => ?_)
      obtain ⟨hI, hf22, hw21⟩ := hw21
      refine x_iast hx hb hK hP hDD hS 21 1 wm21 rfl (by omega) (by decide) dX12_thing_62 ws21 (fun H locs hP hS => ?_)
      have hI := hI.st (j := 21) (i := (4 * (A 0 47) + z13).toNat) (v := z19) (show (0 : Int) ≤ z19 ∧ z19 ≤ 29 from (by omega))
      refine lv_aload_n hx hb dX12_thing_63 rfl (lv_at hl 1 rfl) ?_
      refine va_get (D := (dC, dI)) (ci := 12) (v := .int (iI (A20 0 8))) (C := RX12) (T := TX12) (N := 85) hx hb hts hiX12 hown hK hP 0 wm0 rfl 8 (by decide) (hts _ (List.mem_of_getElem? (i := 8) rfl)) (fun _ h9 => h9) rfl dX12_thing_64 ?_
      have r_A20_0_8 : (0 : Int) ≤ (A20 0 8) ∧ (A20 0 8) ≤ 5 := hI 0 8
      refine lv_if_ne (tgt := 83) hx hb dX12_thing_67 (by decide) (fun c23 => ?_) (fun c23 => ?_)
      · have c23 : ¬ (A20 0 8) = 0 := mt (i_eq0 (rb r_A20_0_8 (by decide) (by decide))).mpr c23
        exact RET _ _ _ _ _ ⟨hI, fr.st (fr.trans (fr_def hA18 (fr.st (fr.trans (fr.trans (fr.rf) hf11 rfl rfl) hf17 rfl rfl) (by decide) rfl)) hf22 rfl rfl) (by decide) rfl, trivial⟩ hP hS dX12_thing_83
      · have c23 : (A20 0 8) = 0 := (i_eq0 (rb r_A20_0_8 (by decide) (by decide))).mp c23
        refine lv_aload_n hx hb dX12_thing_70 rfl (lv_at hl 1 rfl) ?_
        refine va_get (D := (dC, dI)) (ci := 12) (v := .ref (q 19)) (C := RX12) (T := TX12) (N := 85) hx hb hts hiX12 hown hK hP 0 wm0 rfl 30 (by decide) (hts _ (List.mem_of_getElem? (i := 1) rfl)) (fun _ h9 => h9) rfl dX12_thing_71 ?_
        refine lv_aload_n hx hb dX12_thing_74 rfl (lv_at hl 1 rfl) ?_
        have e_A15_47 : A15 0 47 = (A 0 47) := (hf17.2 47 rfl).trans e_A9_47
        have e_A18_47 : A18 0 47 = (A 0 47) := by rw [hA18]; exact e_A15_47
        have e_A20_47 : A20 0 47 = (A 0 47) := (hf22.2 47 rfl).trans e_A18_47
        refine va_get (D := (dC, dI)) (ci := 12) (v := .int (iI (A20 0 47))) (C := RX12) (T := TX12) (N := 85) hx hb hts hiX12 hown hK hP 0 wm0 rfl 47 (by decide) (hts _ (List.mem_of_getElem? (i := 2) rfl)) (fun _ h9 => h9) rfl dX12_thing_75 ?_
        refine tp_i (y := iI (A 0 47)) (congrArg iI e_A20_47) ?_
        refine lv_dup2_11 hx hb dX12_thing_78 rfl rfl ?_
        have a_A15_19 : A15 19 = A 19 := (hf17.1 19 (by decide) rfl).trans a_A9_19
        have a_A18_19 : A18 19 = A 19 := by rw [hA18]; exact a_A15_19
        have a_A20_19 : A20 19 = A 19 := (hf22.1 19 (by decide) rfl).trans a_A18_19
        refine x_iald hx hb hK hP 19 1 wm19 rfl (by omega) (by decide) dX12_thing_79 (fun z24 hz24 => ?_)
        have rz24 : (0 : Int) ≤ z24 ∧ z24 ≤ 4 := by rw [hz24]; exact hI 19 _
        have hz24 : z24 = A 19 ((A 0 47)).toNat := hz24.trans (congrFun a_A20_19 _)
        have ez24 : z24 = z1 := hz24.trans hz1.symm
        refine lv_iconst (v := iI 1) hx hb dX12_thing_80 (by decide +kernel) ?_
        refine x_addv (v := z24 + 1) hx hb dX12_thing_81 (by omega) ?_
        refine x_iast hx hb hK hP hDD hS 19 1 wm19 rfl (by omega) (by decide) dX12_thing_82 ws19 (fun H locs hP hS => ?_)
        have hI := hI.st (j := 19) (i := ((A 0 47)).toNat) (v := z24 + 1) (show (0 : Int) ≤ z24 + 1 ∧ z24 + 1 ≤ 4 from (by omega))
        exact RET _ _ _ _ _ ⟨hI, fr.st (fr.st (fr.trans (fr_def hA18 (fr.st (fr.trans (fr.trans (fr.rf) hf11 rfl rfl) hf17 rfl rfl) (by decide) rfl)) hf22 rfl rfl) (by decide) rfl) (by decide) rfl, trivial⟩ hP hS dX12_thing_83
    · have c12 : z8 = 0 := (i_eq0 (rb rz8 (by decide) (by decide))).mp c12
      exact RET _ _ _ _ _ ⟨hI, fr.trans (fr.rf) hf11 rfl rfl, trivial⟩ hP hS dX12_thing_25
  refine lv_icmp_ne (tgt := 18) hx hb dX12_thing_11 (by decide) (fun c2 => ?_) (fun c2 => ?_)
  · have c2 : ¬ z1 = 4 := mt (i_eq (rb rz1 (by decide) (by decide)) ⟨by decide, by decide⟩).mpr c2
    refine lv_iconst (v := iI 0) hx hb dX12_thing_18 (by decide +kernel) ?_
    exact J19_3 0 _ _ _ (by omega) (by omega) hP hS (lv_sub hl [0] rfl)
  · have c2 : z1 = 4 := (i_eq (rb rz1 (by decide) (by decide)) ⟨by decide, by decide⟩).mp c2
    refine lv_iconst (v := iI 1) hx hb dX12_thing_14 (by decide +kernel) ?_
    refine lv_goto (tgt := 19) hx hb dX12_thing_15 (by decide) ?_
    exact J19_3 1 _ _ _ (by omega) (by omega) hP hS (lv_sub hl [0] rfl)

def ws_mc_X12_mustBe : List Cond := .code yX12_mustBe cX12_mustBe 2 none :: ([.fieldLink RX12 122 "StackKeysModel" "musts" "[I", .fieldLink RX12 155 "StackKeysModel" "in" "I", .methodLink RX12 394 yX12_counts, .instanceMethod yX12_counts, .selects RX12 yX12_counts yX12_counts, .initialized RX12, .code yX12_counts cX12_counts 2 (some .boolean), .fieldLink RX12 36 "StackKeysModel" "faultKind" "I", .fieldLink RX12 23 "StackKeysModel" "signAt" "I", .methodLink RX12 286 yX12_blame, .instanceMethod yX12_blame, .selects RX12 yX12_blame yX12_blame, .code yX12_blame cX12_blame 3 none, .fieldLink RX12 39 "StackKeysModel" "faultPlace" "I", .methodLink RX12 293 yX12_ahead, .instanceMethod yX12_ahead, .selects RX12 yX12_ahead yX12_ahead, .code yX12_ahead cX12_ahead 6 none, .fieldLink RX12 26 "StackKeysModel" "signEnd" "I", .fieldLink RX12 17 "StackKeysModel" "size" "I", .fieldLink RX12 7 "StackKeysModel" "tape" "[I", .fieldLink RX12 20 "StackKeysModel" "sign" "I", .methodLink RX12 279 yX12_isLetter, .static yX12_isLetter, .code yX12_isLetter cX12_isLetter 1 (some .boolean), .methodLink RX12 283 yX12_isDigit, .static yX12_isDigit, .code yX12_isDigit cX12_isDigit 1 (some .boolean), .fieldLink RX12 29 "StackKeysModel" "value" "I", .fieldLink RX12 32 "StackKeysModel" "word" "J", .fieldLink RX12 125 "StackKeysModel" "mustDoor" "[I", .methodLink RX12 406 yX12_asked, .instanceMethod yX12_asked, .selects RX12 yX12_asked yX12_asked, .code yX12_asked cX12_asked 3 (some .int), .methodLink RX12 387 yX12_isOwn, .instanceMethod yX12_isOwn, .selects RX12 yX12_isOwn yX12_isOwn, .code yX12_isOwn cX12_isOwn 3 (some .boolean), .constantLong RX12 296 (482854658917), .constantLong RX12 298 (1685024626), .constantLong RX12 300 (6451064), .constantLong RX12 302 (24948), .constantLong RX12 304 (7038329), .constantLong RX12 306 (26990), .constantLong RX12 308 (123581014175598), .constantLong RX12 310 (6840691), .constantLong RX12 312 (1936225652), .constantLong RX12 314 (25209), .constantLong RX12 316 (1819243380), .constantLong RX12 318 (499967946343), .constantLong RX12 320 (512735736947), .constantLong RX12 322 (1836413812), .constantLong RX12 324 (6447474), .constantLong RX12 326 (2003330414), .constantLong RX12 328 (28530), .constantLong RX12 330 (6385252), .constantLong RX12 332 (7237492), .constantLong RX12 334 (6384748), .constantLong RX12 336 (7825519), .constantLong RX12 338 (1936748404), .constantLong RX12 340 (1801812339), .constantLong RX12 342 (109317377451364), .constantLong RX12 344 (7170414), .constantLong RX12 346 (7168376), .methodLink RX12 390 yX12_named, .instanceMethod yX12_named, .selects RX12 yX12_named yX12_named, .code yX12_named cX12_named 6 (some .int), .fieldLink RX12 51 "StackKeysModel" "places" "[I", .methodLink RX12 348 yX12_nameOf, .instanceMethod yX12_nameOf, .selects RX12 yX12_nameOf yX12_nameOf, .code yX12_nameOf cX12_nameOf 4 (some .long), .fieldLink RX12 107 "StackKeysModel" "thingName" "[J", .fieldLink RX12 54 "StackKeysModel" "placeName" "[J", .fieldLink RX12 61 "StackKeysModel" "doorName" "[J", .fieldLink RX12 83 "StackKeysModel" "keyName" "[J", .fieldLink RX12 98 "StackKeysModel" "personName" "[J", .fieldLink RX12 58 "StackKeysModel" "doors" "[I", .fieldLink RX12 80 "StackKeysModel" "keys" "[I", .fieldLink RX12 95 "StackKeysModel" "persons" "[I", .fieldLink RX12 104 "StackKeysModel" "things" "[I", .fieldLink RX12 128 "StackKeysModel" "mustFrom" "[I", .methodLink RX12 411 yX12_number, .instanceMethod yX12_number, .selects RX12 yX12_number yX12_number, .code yX12_number cX12_number 4 (some .int), .methodLink RX12 352 yX12_is, .static yX12_is, .code yX12_is cX12_is 3 (some .boolean), .fieldLink RX12 131 "StackKeysModel" "mustTo" "[I"] ++ wsX120)
set_option maxRecDepth 20000 in
theorem g_mc_X12_mustBe_0 : GoodIn ws_mc_X12_mustBe (wsV RX12 394 RX12 yX12_counts ws_mc_X12_counts) := goodIn_r _ [3, 4, 5, 6, 7, 8, 9, 10, 11, 12, 6, 13, 14, 15, 16, 17, 18, 19, 20, 21, 22, 23, 24, 25, 26, 27, 28, 29, 30, 93, 94, 95, 96, 97, 98, 99, 100, 101, 102, 103, 104, 105, 106, 107, 108, 109, 110, 111, 112, 113, 114, 115, 116, 117, 118, 119, 120, 121, 122, 123, 124, 125, 126, 127, 128, 129, 130, 131, 132, 133, 134, 135, 136, 137, 138, 139, 140, 141, 142, 143, 144, 145, 146, 147, 148, 149, 150, 151, 152, 153, 154, 155, 156, 157, 158, 159, 160, 161, 162, 163, 164, 165, 166, 167, 168, 169, 170, 171, 172, 173, 174, 175, 176, 177] (by decide +kernel) (by decide +kernel)
set_option maxRecDepth 20000 in
theorem g_mc_X12_mustBe_1 : GoodIn ws_mc_X12_mustBe (wsV RX12 406 RX12 yX12_asked ws_mc_X12_asked) := goodIn_r _ [32, 33, 34, 6, 35, 8, 22, 30, 36, 37, 38, 6, 39, 40, 41, 42, 43, 44, 45, 46, 47, 48, 49, 50, 51, 52, 53, 54, 55, 56, 57, 58, 59, 60, 61, 62, 63, 64, 65, 9, 10, 11, 12, 13, 14, 66, 67, 68, 69, 70, 2, 71, 72, 73, 74, 75, 76, 77, 78, 79, 80, 81, 82, 83, 15, 16, 17, 18, 19, 20, 21, 23, 24, 25, 26, 27, 28, 29, 93, 94, 95, 96, 97, 98, 99, 100, 101, 102, 103, 104, 105, 106, 107, 108, 109, 110, 111, 112, 113, 114, 115, 116, 117, 118, 119, 120, 121, 122, 123, 124, 125, 126, 127, 128, 129, 130, 131, 132, 133, 134, 135, 136, 137, 138, 139, 140, 141, 142, 143, 144, 145, 146, 147, 148, 149, 150, 151, 152, 153, 154, 155, 156, 157, 158, 159, 160, 161, 162, 163, 164, 165, 166, 167, 168, 169, 170, 171, 172, 173, 174, 175, 176, 177] (by decide +kernel) (by decide +kernel)
set_option maxRecDepth 20000 in
theorem g_mc_X12_mustBe_2 : GoodIn ws_mc_X12_mustBe (wsV RX12 411 RX12 yX12_number ws_mc_X12_number) := goodIn_r _ [85, 86, 87, 6, 88, 8, 22, 9, 10, 11, 12, 6, 13, 14, 29, 89, 90, 91, 15, 16, 17, 18, 19, 20, 21, 23, 24, 25, 26, 27, 28, 30, 93, 94, 95, 96, 97, 98, 99, 100, 101, 102, 103, 104, 105, 106, 107, 108, 109, 110, 111, 112, 113, 114, 115, 116, 117, 118, 119, 120, 121, 122, 123, 124, 125, 126, 127, 128, 129, 130, 131, 132, 133, 134, 135, 136, 137, 138, 139, 140, 141, 142, 143, 144, 145, 146, 147, 148, 149, 150, 151, 152, 153, 154, 155, 156, 157, 158, 159, 160, 161, 162, 163, 164, 165, 166, 167, 168, 169, 170, 171, 172, 173, 174, 175, 176, 177] (by decide +kernel) (by decide +kernel)
set_option maxRecDepth 20000 in
theorem g_mc_X12_mustBe_3 : GoodIn ws_mc_X12_mustBe (wsV RX12 411 RX12 yX12_number ws_mc_X12_number) := goodIn_r _ [85, 86, 87, 6, 88, 8, 22, 9, 10, 11, 12, 6, 13, 14, 29, 89, 90, 91, 15, 16, 17, 18, 19, 20, 21, 23, 24, 25, 26, 27, 28, 30, 93, 94, 95, 96, 97, 98, 99, 100, 101, 102, 103, 104, 105, 106, 107, 108, 109, 110, 111, 112, 113, 114, 115, 116, 117, 118, 119, 120, 121, 122, 123, 124, 125, 126, 127, 128, 129, 130, 131, 132, 133, 134, 135, 136, 137, 138, 139, 140, 141, 142, 143, 144, 145, 146, 147, 148, 149, 150, 151, 152, 153, 154, 155, 156, 157, 158, 159, 160, 161, 162, 163, 164, 165, 166, 167, 168, 169, 170, 171, 172, 173, 174, 175, 176, 177] (by decide +kernel) (by decide +kernel)
set_option maxHeartbeats 4000000 in
set_option maxRecDepth 100000 in
theorem mc_X12_mustBe (l : Launch) (dC : Nat → ClassId) (dI : Nat → Nat → Nat) (cB cI cJ cZ cQ : ClassId) (q : Nat → Nat) (A : St) (hI : IM A) : XMv l yX12_mustBe ws_mc_X12_mustBe ({ frames := 3, cells := 0, slots := 0, locals := 70 } : Room) (dC, dI) (tyA cB cI cJ cZ cQ) (WM cI cJ cZ q) A [.ref (q 0)] (fun u => IM u ∧ fr [25, 26, 27, 28] [3, 4, 5, 6, 7, 8, 9] A u ∧ (True)) := by
  refine x_metv (cc := cX12_mustBe) (maxL := 2) WM_adr (by decide +kernel) rfl (Nat.le_of_ble_eq_true rfl) (fun p e s m below meth c Q AS ls hx hb hml hown hts hK hDD hA0 hP hS hl RET => ?_)
  have hown : s.vm.findClass RX12 = some m.cls := hown
  have hl : lv_has ls 2 [(0, .ref (q 0))] := hl
  have hiX12 : ∀ w ∈ u_ws RX12 TX12 85, w ∈ ws_mc_X12_mustBe := fun w h => List.mem_cons_of_mem _ (List.mem_append_right _ h)
  obtain ⟨H, hHe⟩ : ∃ H : Heap, H = s.heap := ⟨_, rfl⟩
  rw [← hHe] at hP
  have hS : va_S AS s.heap H [] := by rw [hHe]; exact hS
  suffices hgo : ∀ locs : List Loc, va_S AS s.heap H locs → W p l e (headSpec ws_mc_X12_mustBe ({ frames := 3, cells := 0, slots := 0, locals := 70 } : Room)).room s m [.ref (q 0)].toArray below meth c H locs 0 0 Q (F0 m 0 ls []) by
    have := hgo [] hS
    rw [hHe] at this
    exact this
  clear hS hHe
  intro locs hS
  refine lv_aload_n hx hb dX12_mustBe_0 rfl (lv_at hl 0 rfl) ?_
  refine lv_aload_n hx hb dX12_mustBe_1 rfl (lv_at hl 0 rfl) ?_
  refine va_get (D := (dC, dI)) (ci := 12) (v := .ref (q 25)) (C := RX12) (T := TX12) (N := 85) hx hb hts hiX12 hown hK hP 0 wm0 rfl 36 (by decide) (hts _ (List.mem_of_getElem? (i := 1) rfl)) (fun _ h9 => h9) rfl dX12_mustBe_2 ?_
  refine lv_aload_n hx hb dX12_mustBe_5 rfl (lv_at hl 0 rfl) ?_
  refine va_get (D := (dC, dI)) (ci := 12) (v := .int (iI (A 0 47))) (C := RX12) (T := TX12) (N := 85) hx hb hts hiX12 hown hK hP 0 wm0 rfl 47 (by decide) (hts _ (List.mem_of_getElem? (i := 2) rfl)) (fun _ h9 => h9) rfl dX12_mustBe_6 ?_
  have r_A_0_47 : (0 : Int) ≤ (A 0 47) ∧ (A 0 47) ≤ 1 := hI 0 47
  refine x_iald hx hb hK hP 25 1 wm25 rfl (by omega) (by decide) dX12_mustBe_9 (fun z1 hz1 => ?_)
  have rz1 : (0 : Int) ≤ z1 ∧ z1 ≤ 6 := by rw [hz1]; exact hI 25 _
  have hz1 : z1 = A 25 ((A 0 47)).toNat := hz1
  refine lv_bipush (v := iI 6) hx hb dX12_mustBe_10 (by decide +kernel) ?_
  have J20_3 : ∀ (z4 : Int) (H : Heap) (locs : List Loc) (ls : Array Slot), (0 ≤ z4 ∧ z4 ≤ 1) → ((z4 = 0 ∧ ¬ z1 = 6) ∨ (z4 = 1 ∧ z1 = 6)) → va_P (dC, dI) vwCl (WM cI cJ cZ q A) H → va_S AS s.heap H locs → lv_has ls 2 [(0, .ref (q 0))] → W p l e (headSpec ws_mc_X12_mustBe ({ frames := 3, cells := 0, slots := 0, locals := 70 } : Room)).room s m [.ref (q 0)].toArray below meth c H locs 0 0 Q (F0 m 20 ls [.int (iI z4), .ref (q 0)]) := by
    intro z4 H locs ls f6 f7 hP hS hl
    refine x_calli (As := [.int (iI z4)]) (rest := []) ⟨hx, hb, hml, hown, hts⟩ (mc_X12_counts l dC dI cB cI cJ cZ cQ q _ z4 hI f6) (cwV 1 hts g_mc_X12_mustBe_0 rfl rfl rfl (by decide +kernel) ⟨Nat.le_of_ble_eq_true rfl, Nat.le_of_ble_eq_true rfl⟩) hK hDD hA0 hP hS 0 12 wm0 rfl rfl hl.1 (Nat.le_of_ble_eq_true rfl) dX12_mustBe_20 (fun z8 A9 H locs hw10 hP hS => ?_)
    obtain ⟨hI, hf11, hw10⟩ := hw10
    have r_A9_0_8 : (0 : Int) ≤ (A9 0 8) ∧ (A9 0 8) ≤ 5 := hI 0 8
    have rz8 : 0 ≤ z8 ∧ z8 ≤ 1 := hw10.1
    refine lv_if_ne (tgt := 27) hx hb dX12_mustBe_23 (by decide) (fun c12 => ?_) (fun c12 => ?_)
    · have c12 : ¬ z8 = 0 := mt (i_eq0 (rb rz8 (by decide) (by decide))).mpr c12
      refine lv_bipush (v := iI 6) hx hb dX12_mustBe_27 (by decide +kernel) ?_
      refine lv_aload_n hx hb dX12_mustBe_29 rfl (lv_at hl 0 rfl) ?_
      have e_A9_47 : A9 0 47 = (A 0 47) := (hf11.2 47 rfl)
      refine va_get (D := (dC, dI)) (ci := 12) (v := .int (iI (A9 0 47))) (C := RX12) (T := TX12) (N := 85) hx hb hts hiX12 hown hK hP 0 wm0 rfl 47 (by decide) (hts _ (List.mem_of_getElem? (i := 2) rfl)) (fun _ h9 => h9) rfl dX12_mustBe_30 ?_
      refine tp_i (y := iI (A 0 47)) (congrArg iI e_A9_47) ?_
      refine x_mulv (v := 6 * (A 0 47)) hx hb dX12_mustBe_33 (by omega) ?_
      refine lv_aload_n hx hb dX12_mustBe_34 rfl (lv_at hl 0 rfl) ?_
      refine va_get (D := (dC, dI)) (ci := 12) (v := .ref (q 25)) (C := RX12) (T := TX12) (N := 85) hx hb hts hiX12 hown hK hP 0 wm0 rfl 36 (by decide) (hts _ (List.mem_of_getElem? (i := 1) rfl)) (fun _ h9 => h9) rfl dX12_mustBe_35 ?_
      refine lv_aload_n hx hb dX12_mustBe_38 rfl (lv_at hl 0 rfl) ?_
      refine va_get (D := (dC, dI)) (ci := 12) (v := .int (iI (A9 0 47))) (C := RX12) (T := TX12) (N := 85) hx hb hts hiX12 hown hK hP 0 wm0 rfl 47 (by decide) (hts _ (List.mem_of_getElem? (i := 2) rfl)) (fun _ h9 => h9) rfl dX12_mustBe_39 ?_
      refine tp_i (y := iI (A 0 47)) (congrArg iI e_A9_47) ?_
      have a_A9_25 : A9 25 = A 25 := (hf11.1 25 (by decide) rfl)
      refine x_iald hx hb hK hP 25 1 wm25 rfl (by omega) (by decide) dX12_mustBe_42 (fun z13 hz13 => ?_)
      have rz13 : (0 : Int) ≤ z13 ∧ z13 ≤ 6 := by rw [hz13]; exact hI 25 _
      have hz13 : z13 = A 25 ((A 0 47)).toNat := hz13.trans (congrFun a_A9_25 _)
      have ez13 : z13 = z1 := hz13.trans hz1.symm
      refine x_addv (v := 6 * (A 0 47) + z13) hx hb dX12_mustBe_43 (by omega) ?_
      refine lv_istore_n (lv' := [(1, .int (iI (6 * (A 0 47) + z13))), (0, .ref (q 0))]) hx hb dX12_mustBe_44 rfl hl (by decide) rfl (fun ls hl => ?_)
      refine lv_aload_n hx hb dX12_mustBe_45 rfl (lv_at hl 1 rfl) ?_
      refine va_get (D := (dC, dI)) (ci := 12) (v := .ref (q 26)) (C := RX12) (T := TX12) (N := 85) hx hb hts hiX12 hown hK hP 0 wm0 rfl 37 (by decide) (hts _ (List.mem_of_getElem? (i := 31) rfl)) (fun _ h9 => h9) rfl dX12_mustBe_46 ?_
      refine lv_iload_n hx hb dX12_mustBe_49 rfl (lv_at hl 0 rfl) ?_
      refine lv_aload_n hx hb dX12_mustBe_50 rfl (lv_at hl 1 rfl) ?_
      refine lv_iconst (v := iI 1) hx hb dX12_mustBe_51 (by decide +kernel) ?_
      refine x_calli (As := [.int (iI 1)]) (rest := [.int (iI (6 * (A 0 47) + z13)), .ref (q 26)]) ⟨hx, hb, hml, hown, hts⟩ (mc_X12_asked l dC dI cB cI cJ cZ cQ q _ 1 hI ⟨by decide, by decide⟩) (cwV 1 hts g_mc_X12_mustBe_1 rfl rfl rfl (by decide +kernel) ⟨Nat.le_of_ble_eq_true rfl, Nat.le_of_ble_eq_true rfl⟩) hK hDD hA0 hP hS 0 12 wm0 rfl rfl hl.1 (Nat.le_of_ble_eq_true rfl) dX12_mustBe_52 (fun z14 A15 H locs hw16 hP hS => ?_)
      obtain ⟨hI, hf17, hw16⟩ := hw16
      have hw16 : 0 ≤ z14 ∧ z14 ≤ 9 := ⟨hw16.1, hw16.2.1⟩
      refine x_iast hx hb hK hP hDD hS 26 1 wm26 rfl (by omega) (by decide) dX12_mustBe_55 ws26 (fun H locs hP hS => ?_)
      have hI := hI.st (j := 26) (i := (6 * (A 0 47) + z13).toNat) (v := z14) (show (0 : Int) ≤ z14 ∧ z14 ≤ 9 from (by omega))
      refine lv_aload_n hx hb dX12_mustBe_56 rfl (lv_at hl 1 rfl) ?_
      refine va_get (D := (dC, dI)) (ci := 12) (v := .ref (q 27)) (C := RX12) (T := TX12) (N := 85) hx hb hts hiX12 hown hK hP 0 wm0 rfl 38 (by decide) (hts _ (List.mem_of_getElem? (i := 84) rfl)) (fun _ h9 => h9) rfl dX12_mustBe_57 ?_
      refine lv_iload_n hx hb dX12_mustBe_60 rfl (lv_at hl 0 rfl) ?_
      refine lv_aload_n hx hb dX12_mustBe_61 rfl (lv_at hl 1 rfl) ?_
      refine lv_iconst (v := iI 0) hx hb dX12_mustBe_62 (by decide +kernel) ?_
      refine lv_sipush (v := iI 1439) hx hb dX12_mustBe_63 (by decide +kernel) ?_
      obtain ⟨A18, hA18⟩ : ∃ A18 : St, A18 = (stA A15 26 (6 * (A 0 47) + z13).toNat z14) := ⟨_, rfl⟩
      rw [← hA18] at hP hI
      refine x_calli (As := [.int (iI 0), .int (iI 1439)]) (rest := [.int (iI (6 * (A 0 47) + z13)), .ref (q 27)]) ⟨hx, hb, hml, hown, hts⟩ (mc_X12_number l dC dI cB cI cJ cZ cQ q _ 0 1439 hI ⟨by decide, by decide⟩ ⟨by decide, by decide⟩) (cwV 2 hts g_mc_X12_mustBe_2 rfl rfl rfl (by decide +kernel) ⟨Nat.le_of_ble_eq_true rfl, Nat.le_of_ble_eq_true rfl⟩) hK hDD hA0 hP hS 0 12 wm0 rfl rfl hl.1 (Nat.le_of_ble_eq_true rfl) dX12_mustBe_66 (fun z19 A20 H locs hw21 hP hS => ?_)
      obtain ⟨hI, hf22, hw21⟩ := hw21
      refine x_iast hx hb hK hP hDD hS 27 1 wm27 rfl (by omega) (by decide) dX12_mustBe_69 ws27 (fun H locs hP hS => ?_)
      have hI := hI.st (j := 27) (i := (6 * (A 0 47) + z13).toNat) (v := z19) (show (-2147483648 : Int) ≤ z19 ∧ z19 ≤ 2147483647 from (by omega))
      refine lv_aload_n hx hb dX12_mustBe_70 rfl (lv_at hl 1 rfl) ?_
      refine va_get (D := (dC, dI)) (ci := 12) (v := .ref (q 28)) (C := RX12) (T := TX12) (N := 85) hx hb hts hiX12 hown hK hP 0 wm0 rfl 39 (by decide) (hts _ (List.mem_of_getElem? (i := 92) rfl)) (fun _ h9 => h9) rfl dX12_mustBe_71 ?_
      refine lv_iload_n hx hb dX12_mustBe_74 rfl (lv_at hl 0 rfl) ?_
      refine lv_aload_n hx hb dX12_mustBe_75 rfl (lv_at hl 1 rfl) ?_
      refine lv_aload_n hx hb dX12_mustBe_76 rfl (lv_at hl 1 rfl) ?_
      refine va_get (D := (dC, dI)) (ci := 12) (v := .ref (q 27)) (C := RX12) (T := TX12) (N := 85) hx hb hts hiX12 hown hK hP 0 wm0 rfl 38 (by decide) (hts _ (List.mem_of_getElem? (i := 84) rfl)) (fun _ h9 => h9) rfl dX12_mustBe_77 ?_
      refine lv_iload_n hx hb dX12_mustBe_80 rfl (lv_at hl 0 rfl) ?_
      refine x_iald hx hb hK hP 27 1 wm27 rfl (by omega) (by decide) dX12_mustBe_81 (fun z23 hz23 => ?_)
      have rz23 : (-2147483648 : Int) ≤ z23 ∧ z23 ≤ 2147483647 := by rw [hz23]; exact hI 27 _
      have ez23 : z23 = z19 := by rw [hz23]; simp [stA, up]
      clear hz23
      refine lv_sipush (v := iI 1439) hx hb dX12_mustBe_82 (by decide +kernel) ?_
      obtain ⟨A24, hA24⟩ : ∃ A24 : St, A24 = (stA A20 27 (6 * (A 0 47) + z13).toNat z19) := ⟨_, rfl⟩
      rw [← hA24] at hP hI
      refine x_calli (As := [.int (iI z23), .int (iI 1439)]) (rest := [.int (iI (6 * (A 0 47) + z13)), .ref (q 28)]) ⟨hx, hb, hml, hown, hts⟩ (mc_X12_number l dC dI cB cI cJ cZ cQ q _ z23 1439 hI rz23 ⟨by decide, by decide⟩) (cwV 2 hts g_mc_X12_mustBe_3 rfl rfl rfl (by decide +kernel) ⟨Nat.le_of_ble_eq_true rfl, Nat.le_of_ble_eq_true rfl⟩) hK hDD hA0 hP hS 0 12 wm0 rfl rfl hl.1 (Nat.le_of_ble_eq_true rfl) dX12_mustBe_85 (fun z25 A26 H locs hw27 hP hS => ?_)
      obtain ⟨hI, hf28, hw27⟩ := hw27
      refine x_iast hx hb hK hP hDD hS 28 1 wm28 rfl (by omega) (by decide) dX12_mustBe_88 ws28 (fun H locs hP hS => ?_)
      have hI := hI.st (j := 28) (i := (6 * (A 0 47) + z13).toNat) (v := z25) (show (-2147483648 : Int) ≤ z25 ∧ z25 ≤ 2147483647 from (by omega))
      refine lv_aload_n hx hb dX12_mustBe_89 rfl (lv_at hl 1 rfl) ?_
      refine va_get (D := (dC, dI)) (ci := 12) (v := .int (iI (A26 0 8))) (C := RX12) (T := TX12) (N := 85) hx hb hts hiX12 hown hK hP 0 wm0 rfl 8 (by decide) (hts _ (List.mem_of_getElem? (i := 8) rfl)) (fun _ h9 => h9) rfl dX12_mustBe_90 ?_
      have r_A26_0_8 : (0 : Int) ≤ (A26 0 8) ∧ (A26 0 8) ≤ 5 := hI 0 8
      refine lv_if_ne (tgt := 109) hx hb dX12_mustBe_93 (by decide) (fun c29 => ?_) (fun c29 => ?_)
      · have c29 : ¬ (A26 0 8) = 0 := mt (i_eq0 (rb r_A26_0_8 (by decide) (by decide))).mpr c29
        exact RET _ _ _ _ _ ⟨hI, fr.st (fr.trans (fr_def hA24 (fr.st (fr.trans (fr_def hA18 (fr.st (fr.trans (fr.trans (fr.rf) hf11 rfl rfl) hf17 rfl rfl) (by decide) rfl)) hf22 rfl rfl) (by decide) rfl)) hf28 rfl rfl) (by decide) rfl, trivial⟩ hP hS dX12_mustBe_109
      · have c29 : (A26 0 8) = 0 := (i_eq0 (rb r_A26_0_8 (by decide) (by decide))).mp c29
        refine lv_aload_n hx hb dX12_mustBe_96 rfl (lv_at hl 1 rfl) ?_
        refine va_get (D := (dC, dI)) (ci := 12) (v := .ref (q 25)) (C := RX12) (T := TX12) (N := 85) hx hb hts hiX12 hown hK hP 0 wm0 rfl 36 (by decide) (hts _ (List.mem_of_getElem? (i := 1) rfl)) (fun _ h9 => h9) rfl dX12_mustBe_97 ?_
        refine lv_aload_n hx hb dX12_mustBe_100 rfl (lv_at hl 1 rfl) ?_
        have e_A15_47 : A15 0 47 = (A 0 47) := (hf17.2 47 rfl).trans e_A9_47
        have e_A18_47 : A18 0 47 = (A 0 47) := by rw [hA18]; exact e_A15_47
        have e_A20_47 : A20 0 47 = (A 0 47) := (hf22.2 47 rfl).trans e_A18_47
        have e_A24_47 : A24 0 47 = (A 0 47) := by rw [hA24]; exact e_A20_47
        have e_A26_47 : A26 0 47 = (A 0 47) := (hf28.2 47 rfl).trans e_A24_47
        refine va_get (D := (dC, dI)) (ci := 12) (v := .int (iI (A26 0 47))) (C := RX12) (T := TX12) (N := 85) hx hb hts hiX12 hown hK hP 0 wm0 rfl 47 (by decide) (hts _ (List.mem_of_getElem? (i := 2) rfl)) (fun _ h9 => h9) rfl dX12_mustBe_101 ?_
        refine tp_i (y := iI (A 0 47)) (congrArg iI e_A26_47) ?_
        refine lv_dup2_11 hx hb dX12_mustBe_104 rfl rfl ?_
        have a_A15_25 : A15 25 = A 25 := (hf17.1 25 (by decide) rfl).trans a_A9_25
        have a_A18_25 : A18 25 = A 25 := by rw [hA18]; exact a_A15_25
        have a_A20_25 : A20 25 = A 25 := (hf22.1 25 (by decide) rfl).trans a_A18_25
        have a_A24_25 : A24 25 = A 25 := by rw [hA24]; exact a_A20_25
        have a_A26_25 : A26 25 = A 25 := (hf28.1 25 (by decide) rfl).trans a_A24_25
        refine x_iald hx hb hK hP 25 1 wm25 rfl (by omega) (by decide) dX12_mustBe_105 (fun z30 hz30 => ?_)
        have rz30 : (0 : Int) ≤ z30 ∧ z30 ≤ 6 := by rw [hz30]; exact hI 25 _
        have hz30 : z30 = A 25 ((A 0 47)).toNat := hz30.trans (congrFun a_A26_25 _)
        have ez30 : z30 = z1 := hz30.trans hz1.symm
        refine lv_iconst (v := iI 1) hx hb dX12_mustBe_106 (by decide +kernel) ?_
        refine x_addv (v := z30 + 1) hx hb dX12_mustBe_107 (by omega) ?_
        refine x_iast hx hb hK hP hDD hS 25 1 wm25 rfl (by omega) (by decide) dX12_mustBe_108 ws25 (fun H locs hP hS => ?_)
        have hI := hI.st (j := 25) (i := ((A 0 47)).toNat) (v := z30 + 1) (show (0 : Int) ≤ z30 + 1 ∧ z30 + 1 ≤ 6 from (by omega))
        exact RET _ _ _ _ _ ⟨hI, fr.st (fr.st (fr.trans (fr_def hA24 (fr.st (fr.trans (fr_def hA18 (fr.st (fr.trans (fr.trans (fr.rf) hf11 rfl rfl) hf17 rfl rfl) (by decide) rfl)) hf22 rfl rfl) (by decide) rfl)) hf28 rfl rfl) (by decide) rfl) (by decide) rfl, trivial⟩ hP hS dX12_mustBe_109
    · have c12 : z8 = 0 := (i_eq0 (rb rz8 (by decide) (by decide))).mp c12
      exact RET _ _ _ _ _ ⟨hI, fr.trans (fr.rf) hf11 rfl rfl, trivial⟩ hP hS dX12_mustBe_26
  refine lv_icmp_ne (tgt := 19) hx hb dX12_mustBe_12 (by decide) (fun c2 => ?_) (fun c2 => ?_)
  · have c2 : ¬ z1 = 6 := mt (i_eq (rb rz1 (by decide) (by decide)) ⟨by decide, by decide⟩).mpr c2
    refine lv_iconst (v := iI 0) hx hb dX12_mustBe_19 (by decide +kernel) ?_
    exact J20_3 0 _ _ _ (by omega) (by omega) hP hS (lv_sub hl [0] rfl)
  · have c2 : z1 = 6 := (i_eq (rb rz1 (by decide) (by decide)) ⟨by decide, by decide⟩).mp c2
    refine lv_iconst (v := iI 1) hx hb dX12_mustBe_15 (by decide +kernel) ?_
    refine lv_goto (tgt := 20) hx hb dX12_mustBe_16 (by decide) ?_
    exact J20_3 1 _ _ _ (by omega) (by omega) hP hS (lv_sub hl [0] rfl)
