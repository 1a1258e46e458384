def ws_mc_X12_mustBe : List Cond := .code yX12_mustBe cX12_mustBe 2 none :: ([.fieldLink RX12 122 "StackKeysModel" "musts" "[I", .fieldLink RX12 155 "StackKeysModel" "in" "I", .methodLink RX12 394 yX12_counts, .instanceMethod yX12_counts, .selects RX12 yX12_counts yX12_counts, .initialized RX12, .code yX12_counts cX12_counts 2 (some .boolean), .fieldLink RX12 36 "StackKeysModel" "faultKind" "I", .fieldLink RX12 23 "StackKeysModel" "signAt" "I", .methodLink RX12 286 yX12_blame, .instanceMethod yX12_blame, .selects RX12 yX12_blame yX12_blame, .code yX12_blame cX12_blame 3 none, .fieldLink RX12 39 "StackKeysModel" "faultPlace" "I", .methodLink RX12 293 yX12_ahead, .instanceMethod yX12_ahead, .selects RX12 yX12_ahead yX12_ahead, .code yX12_ahead cX12_ahead 6 none, .fieldLink RX12 26 "StackKeysModel" "signEnd" "I", .fieldLink RX12 17 "StackKeysModel" "size" "I", .fieldLink RX12 7 "StackKeysModel" "tape" "[I", .fieldLink RX12 20 "StackKeysModel" "sign" "I", .methodLink RX12 279 yX12_isLetter, .static yX12_isLetter, .code yX12_isLetter cX12_isLetter 1 (some .boolean), .methodLink RX12 283 yX12_isDigit, .static yX12_isDigit, .code yX12_isDigit cX12_isDigit 1 (some .boolean), .fieldLink RX12 29 "StackKeysModel" "value" "I", .fieldLink RX12 32 "StackKeysModel" "word" "J", .fieldLink RX12 125 "StackKeysModel" "mustDoor" "[I", .methodLink RX12 406 yX12_asked, .instanceMethod yX12_asked, .selects RX12 yX12_asked yX12_asked, .code yX12_asked cX12_asked 3 (some .int), .methodLink RX12 387 yX12_isOwn, .instanceMethod yX12_isOwn, .selects RX12 yX12_isOwn yX12_isOwn, .code yX12_isOwn cX12_isOwn 3 (some .boolean), .constantLong RX12 296 (482854658917), .constantLong RX12 298 (1685024626), .constantLong RX12 300 (6451064), .constantLong RX12 302 (24948), .constantLong RX12 304 (7038329), .constantLong RX12 306 (26990), .constantLong RX12 308 (123581014175598), .constantLong RX12 310 (6840691), .constantLong RX12 312 (1936225652), .constantLong RX12 314 (25209), .constantLong RX12 316 (1819243380), .constantLong RX12 318 (499967946343), .constantLong RX12 320 (512735736947), .constantLong RX12 322 (1836413812), .constantLong RX12 324 (6447474), .constantLong RX12 326 (2003330414), .constantLong RX12 328 (28530), .constantLong RX12 330 (6385252), .constantLong RX12 332 (7237492), .constantLong RX12 334 (6384748), .constantLong RX12 336 (7825519), .constantLong RX12 338 (1936748404), .constantLong RX12 340 (1801812339), .constantLong RX12 342 (109317377451364), .constantLong RX12 344 (7170414), .constantLong RX12 346 (7168376), .methodLink RX12 390 yX12_named, .instanceMethod yX12_named, .selects RX12 yX12_named yX12_named, .code yX12_named cX12_named 6 (some .int), .fieldLink RX12 51 "StackKeysModel" "places" "[I", .methodLink RX12 348 yX12_nameOf, .instanceMethod yX12_nameOf, .selects RX12 yX12_nameOf yX12_nameOf, .code yX12_nameOf cX12_nameOf 4 (some .long), .fieldLink RX12 107 "StackKeysModel" "thingName" "[J", .fieldLink RX12 54 "StackKeysModel" "placeName" "[J", .fieldLink RX12 61 "StackKeysModel" "doorName" "[J", .fieldLink RX12 83 "StackKeysModel" "keyName" "[J", .fieldLink RX12 98 "StackKeysModel" "personName" "[J", .fieldLink RX12 58 "StackKeysModel" "doors" "[I", .fieldLink RX12 80 "StackKeysModel" "keys" "[I", .fieldLink RX12 95 "StackKeysModel" "persons" "[I", .fieldLink RX12 104 "StackKeysModel" "things" "[I", .fieldLink RX12 128 "StackKeysModel" "mustFrom" "[I", .methodLink RX12 411 yX12_number, .instanceMethod yX12_number, .selects RX12 yX12_number yX12_number, .code yX12_number cX12_number 4 (some .int), .methodLink RX12 352 yX12_is, .static yX12_is, .code yX12_is cX12_is 3 (some .boolean), .fieldLink RX12 131 "StackKeysModel" "mustTo" "[I"] ++ wsX120)
set_option maxRecDepth 20000 in
theorem g_mc_X12_mustBe_0 : GoodIn ws_mc_X12_mustBe (wsV RX12 394 RX12 yX12_counts ws_mc_X12_counts) := goodIn_r _ [3, 4, 5, 6, 7, 8, 9, 10, 11, 12, 6, 13, 14, 15, 16, 17, 18, 19, 20, 21, 22, 23, 24, 25, 26, 27, 28, 29, 30, 93, 94, 95, 96, 97, 98, 99, 100, 101, 102, 103, 104, 105, 106, 107, 108, 109, 110, 111, 112, 113, 114, 115, 116, 117, 118, 119, 120, 121, 122, 123, 124, 125, 126, 127, 128, 129, 130, 131, 132, 133, 134, 135, 136, 137, 138, 139, 140, 141, 142, 143, 144, 145, 146, 147, 148, 149, 150, 151, 152, 153, 154, 155, 156, 157, 158, 159, 160, 161, 162, 163, 164, 165, 166, 167, 168, 169, 170, 171, 172, 173, 174, 175, 176, 177] (by decide +kernel) (by decide +kernel)
set_option maxRecDepth 20000 in
theorem g_mc_X12_mustBe_1 : GoodIn ws_mc_X12_mustBe (wsV RX12 406 RX12 yX12_asked ws_mc_X12_asked) := goodIn_r _ [32, 33, 34, 6, 35, 8, 22, 30, 36, 37, 38, 6, 39, 40, 41, 42, 43, 44, 45, 46, 47, 48, 49, 50, 51, 52, 53, 54, 55, 56, 57, 58, 59, 60, 61, 62, 63, 64, 65, 9, 10, 11, 12, 13, 14, 66, 67, 68, 69, 70, 2, 71, 72, 73, 74, 75, 76, 77, 78, 79, 80, 81, 82, 83, 15, 16, 17, 18, 19, 20, 21, 23, 24, 25, 26, 27, 28, 29, 93, 94, 95, 96, 97, 98, 99, 100, 101, 102, 103, 104, 105, 106, 107, 108, 109, 110, 111, 112, 113, 114, 115, 116, 117, 118, 119, 120, 121, 122, 123, 124, 125, 126, 127, 128, 129, 130, 131, 132, 133, 134, 135, 136, 137, 138, 139, 140, 141, 142, 143, 144, 145, 146, 147, 148, 149, 150, 151, 152, 153, 154, 155, 156, 157, 158, 159, 160, 161, 162, 163, 164, 165, 166, 167, 168, 169, 170, 171, 172, 173, 174, 175, 176, 177] (by decide +kernel) (by decide +kernel)
set_option maxRecDepth 20000 in
theorem g_mc_X12_mustBe_2 : GoodIn ws_mc_X12_mustBe (wsV RX12 411 RX12 yX12_number ws_mc_X12_number) := goodIn_r _ [85, 86, 87, 6, 88, 8, 22, 9, 10, 11, 12, 6, 13, 14, 29, 89, 90, 91, 15, 16, 17, 18, 19, 20, 21, 23, 24, 25, 26, 27, 28, 30, 93, 94, 95, 96, 97, 98, 99, 100, 101, 102, 103, 104, 105, 106, 107, 108, 109, 110, 111, 112, 113, 114, 115, 116, 117, 118, 119, 120, 121, 122, 123, 124, 125, 126, 127, 128, 129, 130, 131, 132, 133, 134, 135, 136, 137, 138, 139, 140, 141, 142, 143, 144, 145, 146, 147, 148, 149, 150, 151, 152, 153, 154, 155, 156, 157, 158, 159, 160, 161, 162, 163, 164, 165, 166, 167, 168, 169, 170, 171, 172, 173, 174, 175, 176, 177] (by decide +kernel) (by decide +kernel)
set_option maxRecDepth 20000 in
theorem g_mc_X12_mustBe_3 : GoodIn ws_mc_X12_mustBe (wsV RX12 411 RX12 yX12_number ws_mc_X12_number) := goodIn_r _ [85, 86, 87, 6, 88, 8, 22, 9, 10, 11, 12, 6, 13, 14, 29, 89, 90, 91, 15, 16, 17, 18, 19, 20, 21, 23, 24, 25, 26, 27, 28, 30, 93, 94, 95, 96, 97, 98, 99, 100, 101, 102, 103, 104, 105, 106, 107, 108, 109, 110, 111, 112, 113, 114, 115, 116, 117, 118, 119, 120, 121, 122, 123, 124, 125, 126, 127, 128, 129, 130, 131, 132, 133, 134, 135, 136, 137, 138, 139, 140, 141, 142, 143, 144, 145, 146, 147, 148, 149, 150, 151, 152, 153, 154, 155, 156, 157, 158, 159, 160, 161, 162, 163, 164, 165, 166, 167, 168, 169, 170, 171, 172, 173, 174, 175, 176, 177] (by decide +kernel) (by decide +kernel)
set_option maxHeartbeats 4000000 in
set_option maxRecDepth 100000 in
theorem mc_X12_mustBe (l : Launch) (dC : Nat → ClassId) (dI : Nat → Nat → Nat) (cB cI cJ cZ cQ : ClassId) (q : Nat → Nat) (A : St) (hI : IM A) : XMv l yX12_mustBe ws_mc_X12_mustBe ({ frames := 3, cells := 0, slots := 0, locals := 70 } : Room) (dC, dI) (tyA cB cI cJ cZ cQ) (WM cI cJ cZ q) A [.ref (q 0)] (fun u => IM u ∧ fr [25, 26, 27, 28] [3, 4, 5, 6, 7, 8, 9] A u ∧ (True)) := by
  refine x_metv (cc := cX12_mustBe) (maxL := 2) WM_adr (by decide +kernel) rfl (Nat.le_of_ble_eq_true rfl) (fun p e s m below meth c Q AS ls hx hb hml hown hts hK hDD hA0 hP hS hl RET => ?_)
  have hown : s.vm.findClass RX12 = some m.cls := hown
  have hl : lv_has ls 2 [(0, .ref (q 0))] := hl
  have hiX12 : ∀ w ∈ u_ws RX12 TX12 85, w ∈ ws_mc_X12_mustBe := fun w h => List.mem_cons_of_mem _ (List.mem_append_right _ h)
  obtain ⟨H, hHe⟩ : ∃ H : Heap, H = s.heap := ⟨_, rfl⟩
  rw [← hHe] at hP
  have hS : va_S AS s.heap H [] := by rw [hHe]; exact hS
  suffices hgo : ∀ locs : List Loc, va_S AS s.heap H locs → W p l e (headSpec ws_mc_X12_mustBe ({ frames := 3, cells := 0, slots := 0, locals := 70 } : Room)).room s m [.ref (q 0)].toArray below meth c H locs 0 0 Q (F0 m 0 ls []) by
    have := hgo [] hS
    rw [hHe] at this
    exact this
  clear hS hHe
  intro locs hS
  refine lv_aload_n hx hb dX12_mustBe_0 rfl (lv_at hl 0 rfl) ?_
  refine lv_aload_n hx hb dX12_mustBe_1 rfl (lv_at hl 0 rfl) ?_
  refine va_get (D := (dC, dI)) (ci := 12) (v := .ref (q 25)) (C := RX12) (T := TX12) (N := 85) hx hb hts hiX12 hown hK hP 0 wm0 rfl 36 (by decide) (hts _ (List.mem_of_getElem? (i := 1) rfl)) (fun _ h9 => h9) rfl dX12_mustBe_2 ?_
  refine lv_aload_n hx hb dX12_mustBe_5 rfl (lv_at hl 0 rfl) ?_
  refine va_get (D := (dC, dI)) (ci := 12) (v := .int (iI (A 0 47))) (C := RX12) (T := TX12) (N := 85) hx hb hts hiX12 hown hK hP 0 wm0 rfl 47 (by decide) (hts _ (List.mem_of_getElem? (i := 2) rfl)) (fun _ h9 => h9) rfl dX12_mustBe_6 ?_
  have r_A_0_47 : (0 : Int) ≤ (A 0 47) ∧ (A 0 47) ≤ 1 := hI 0 47
  refine x_iald hx hb hK hP 25 1 wm25 rfl (by omega) (by decide) dX12_mustBe_9 (fun z1 hz1 => ?_)
  have rz1 : (0 : Int) ≤ z1 ∧ z1 ≤ 6 := by rw [hz1]; exact hI 25 _
  have hz1 : z1 = A 25 ((A 0 47)).toNat := hz1
  refine lv_bipush (v := iI 6) hx hb dX12_mustBe_10 (by decide +kernel) ?_
  have J20_3 : ∀ (z4 : Int) (H : Heap) (locs : List Loc) (ls : Array Slot), (0 ≤ z4 ∧ z4 ≤ 1) → ((z4 = 0 ∧ ¬ z1 = 6) ∨ (z4 = 1 ∧ z1 = 6)) → va_P (dC, dI) vwCl (WM cI cJ cZ q A) H → va_S AS s.heap H locs → lv_has ls 2 [(0, .ref (q 0))] → W p l e (headSpec ws_mc_X12_mustBe ({ frames := 3, cells := 0, slots := 0, locals := 70 } : Room)).room s m [.ref (q 0)].toArray below meth c H locs 0 0 Q (F0 m 20 ls [.int (iI z4), .ref (q 0)]) := by
    intro z4 H locs ls f6 f7 hP hS hl
    refine x_calli (As := [.int (iI z4)]) (rest := []) ⟨hx, hb, hml, hown, hts⟩ (mc_X12_counts l dC dI cB cI cJ cZ cQ q _ z4 hI f6) (cwV 1 hts g_mc_X12_mustBe_0 rfl rfl rfl (by decide +kernel) ⟨Nat.le_of_ble_eq_true rfl, Nat.le_of_ble_eq_true rfl⟩) hK hDD hA0 hP hS 0 12 wm0 rfl rfl hl.1 (Nat.le_of_ble_eq_true rfl) dX12_mustBe_20 (fun z8 A9 H locs hw10 hP hS => ?_)
    obtain ⟨hI, hf11, hw10⟩ := hw10
    have r_A9_0_8 : (0 : Int) ≤ (A9 0 8) ∧ (A9 0 8) ≤ 5 := hI 0 8
    have rz8 : 0 ≤ z8 ∧ z8 ≤ 1 := hw10.1
    refine lv_if_ne (tgt := 27) hx hb dX12_mustBe_23 (by decide) (fun c12 => ?_) (fun c12 => ?_)
    · have c12 : ¬ z8 = 0 := mt (i_eq0 (rb rz8 (by decide) (by decide))).mpr c12
      refine lv_bipush (v := iI 6) hx hb dX12_mustBe_27 (by decide +kernel) ?_
      refine lv_aload_n hx hb dX12_mustBe_29 rfl (lv_at hl 0 rfl) ?_
      have e_A9_47 : A9 0 47 = (A 0 47) := (hf11.2 47 rfl)
      refine va_get (D := (dC, dI)) (ci := 12) (v := .int (iI (A9 0 47))) (C := RX12) (T := TX12) (N := 85) hx hb hts hiX12 hown hK hP 0 wm0 rfl 47 (by decide) (hts _ (List.mem_of_getElem? (i := 2) rfl)) (fun _ h9 => h9) rfl dX12_mustBe_30 ?_
      refine tp_i (y := iI (A 0 47)) (congrArg iI e_A9_47) ?_
      refine x_mulv (v := 6 * (A 0 47)) hx hb dX12_mustBe_33 (by omega) ?_
      refine lv_aload_n hx hb dX12_mustBe_34 rfl (lv_at hl 0 rfl) ?_
      refine va_get (D := (dC, dI)) (ci := 12) (v := .ref (q 25)) (C := RX12) (T := TX12) (N := 85) hx hb hts hiX12 hown hK hP 0 wm0 rfl 36 (by decide) (hts _ (List.mem_of_getElem? (i := 1) rfl)) (fun _ h9 => h9) rfl dX12_mustBe_35 ?_
      refine lv_aload_n hx hb dX12_mustBe_38 rfl (lv_at hl 0 rfl) ?_
      refine va_get (D := (dC, dI)) (ci := 12) (v := .int (iI (A9 0 47))) (C := RX12) (T := TX12) (N := 85) hx hb hts hiX12 hown hK hP 0 wm0 rfl 47 (by decide) (hts _ (List.mem_of_getElem? (i := 2) rfl)) (fun _ h9 => h9) rfl dX12_mustBe_39 ?_
      refine tp_i (y := iI (A 0 47)) (congrArg iI e_A9_47) ?_
      have a_A9_25 : A9 25 = A 25 := (hf11.1 25 (by decide) rfl)
      refine x_iald hx hb hK hP 25 1 wm25 rfl (by omega) (by decide) dX12_mustBe_42 (fun z13 hz13 => ?_)
      have rz13 : (0 : Int) ≤ z13 ∧ z13 ≤ 6 := by rw [hz13]; exact hI 25 _
      have hz13 : z13 = A 25 ((A 0 47)).toNat := hz13.trans (congrFun a_A9_25 _)
      have ez13 : z13 = z1 := hz13.trans hz1.symm
      refine x_addv (v := 6 * (A 0 47) + z13) hx hb dX12_mustBe_43 (by omega) ?_
      refine lv_istore_n (lv' := [(1, .int (iI (6 * (A 0 47) + z13))), (0, .ref (q 0))]) hx hb dX12_mustBe_44 rfl hl (by decide) rfl (fun ls hl => ?_)
      refine lv_aload_n hx hb dX12_mustBe_45 rfl (lv_at hl 1 rfl) ?_
      refine va_get (D := (dC, dI)) (ci := 12) (v := .ref (q 26)) (C := RX12) (T := TX12) (N := 85) hx hb hts hiX12 hown hK hP 0 wm0 rfl 37 (by decide) (hts _ (List.mem_of_getElem? (i := 31) rfl)) (fun _ h9 => h9) rfl dX12_mustBe_46 ?_
      refine lv_iload_n hx hb dX12_mustBe_49 rfl (lv_at hl 0 rfl) ?_
      refine lv_aload_n hx hb dX12_mustBe_50 rfl (lv_at hl 1 rfl) ?_
      refine lv_iconst (v := iI 1) hx hb dX12_mustBe_51 (by decide +kernel) ?_
      refine x_calli (As := [.int (iI 1)]) (rest := [.int (iI (6 * (A 0 47) + z13)), .ref (q 26)]) ⟨hx, hb, hml, hown, hts⟩ (mc_X12_asked l dC dI cB cI cJ cZ cQ q _ 1 hI ⟨by decide, by decide⟩) (cwV 1 hts g_mc_X12_mustBe_1 rfl rfl rfl (by decide +kernel) ⟨Nat.le_of_ble_eq_true rfl, Nat.le_of_ble_eq_true rfl⟩) hK hDD hA0 hP hS 0 12 wm0 rfl rfl hl.1 (Nat.le_of_ble_eq_true rfl) dX12_mustBe_52 (fun z14 A15 H locs hw16 hP hS => ?_)
      obtain ⟨hI, hf17, hw16⟩ := hw16
      have hw16 : 0 ≤ z14 ∧ z14 ≤ 9 := ⟨hw16.1, hw16.2.1⟩
      refine x_iast hx hb hK hP hDD hS 26 1 wm26 rfl (by omega) (by decide) dX12_mustBe_55 ws26 (fun H locs hP hS => ?_)
      have hI := hI.st (j := 26) (i := (6 * (A 0 47) + z13).toNat) (v := z14) (show (0 : Int) ≤ z14 ∧ z14 ≤ 9 from (by omega))
      refine lv_aload_n hx hb dX12_mustBe_56 rfl (lv_at hl 1 rfl) ?_
      refine va_get (D := (dC, dI)) (ci := 12) (v := .ref (q 27)) (C := RX12) (T := TX12) (N := 85) hx hb hts hiX12 hown hK hP 0 wm0 rfl 38 (by decide) (hts _ (List.mem_of_getElem? (i := 84) rfl)) (fun _ h9 => h9) rfl dX12_mustBe_57 ?_
      refine lv_iload_n hx hb dX12_mustBe_60 rfl (lv_at hl 0 rfl) ?_
      refine lv_aload_n hx hb dX12_mustBe_61 rfl (lv_at hl 1 rfl) ?_
      refine lv_iconst (v := iI 0) hx hb dX12_mustBe_62 (by decide +kernel) ?_
      refine lv_sipush (v := iI 1439) hx hb dX12_mustBe_63 (by decide +kernel) ?_
      obtain ⟨A18, hA18⟩ : ∃ A18 : St, A18 = (stA A15 26 (6 * (A 0 47) + z13).toNat z14) := ⟨_, rfl⟩
      rw [← hA18] at hP hI
      refine x_calli (As := [.int (iI 0), .int (iI 1439)]) (rest := [.int (iI (6 * (A 0 47) + z13)), .ref (q 27)]) ⟨hx, hb, hml, hown, hts⟩ (mc_X12_number l dC dI cB cI cJ cZ cQ q _ 0 1439 hI ⟨by decide, by decide⟩ ⟨by decide, by decide⟩) (cwV 2 hts g_mc_X12_mustBe_2 rfl rfl rfl (by decide +kernel) ⟨Nat.le_of_ble_eq_true rfl, Nat.le_of_ble_eq_true rfl⟩) hK hDD hA0 hP hS 0 12 wm0 rfl rfl hl.1 (Nat.le_of_ble_eq_true rfl) dX12_mustBe_66 (fun z19 A20 H locs hw21 hP hS => ?_)
      obtain ⟨hI, hf22, hw21⟩ := hw21
      refine x_iast hx hb hK hP hDD hS 27 1 wm27 rfl (by omega) (by decide) dX12_mustBe_69 ws27 (fun H locs hP hS => ?_)
      have hI := hI.st (j := 27) (i := (6 * (A 0 47) + z13).toNat) (v := z19) (show (-2147483648 : Int) ≤ z19 ∧ z19 ≤ 2147483647 from (by omega))
      refine lv_aload_n hx hb dX12_mustBe_70 rfl (lv_at hl 1 rfl) ?_
      refine va_get (D := (dC, dI)) (ci := 12) (v := .ref (q 28)) (C := RX12) (T := TX12) (N := 85) hx hb hts hiX12 hown hK hP 0 wm0 rfl 39 (by decide) (hts _ (List.mem_of_getElem? (i := 92) rfl)) (fun _ h9 => h9) rfl dX12_mustBe_71 ?_
      refine lv_iload_n hx hb dX12_mustBe_74 rfl (lv_at hl 0 rfl) ?_
      refine lv_aload_n hx hb dX12_mustBe_75 rfl (lv_at hl 1 rfl) ?_
      refine lv_aload_n hx hb dX12_mustBe_76 rfl (lv_at hl 1 rfl) ?_
      refine va_get (D := (dC, dI)) (ci := 12) (v := .ref (q 27)) (C := RX12) (T := TX12) (N := 85) hx hb hts hiX12 hown hK hP 0 wm0 rfl 38 (by decide) (hts _ (List.mem_of_getElem? (i := 84) rfl)) (fun _ h9 => h9) rfl dX12_mustBe_77 ?_
      refine lv_iload_n hx hb dX12_mustBe_80 rfl (lv_at hl 0 rfl) ?_
      refine x_iald hx hb hK hP 27 1 wm27 rfl (by omega) (by decide) dX12_mustBe_81 (fun z23 hz23 => ?_)
      have rz23 : (-2147483648 : Int) ≤ z23 ∧ z23 ≤ 2147483647 := by rw [hz23]; exact hI 27 _
      have ez23 : z23 = z19 := by rw [hz23]; simp [stA, up]
      clear hz23
      refine lv_sipush (v := iI 1439) hx hb dX12_mustBe_82 (by decide +kernel) ?_
      obtain ⟨A24, hA24⟩ : ∃ A24 : St, A24 = (stA A20 27 (6 * (A 0 47) + z13).toNat z19) := ⟨_, rfl⟩
      rw [← hA24] at hP hI
      refine x_calli (As := [.int (iI z23), .int (iI 1439)]) (rest := [.int (iI (6 * (A 0 47) + z13)), .ref (q 28)]) ⟨hx, hb, hml, hown, hts⟩ (mc_X12_number l dC dI cB cI cJ cZ cQ q _ z23 1439 hI rz23 ⟨by decide, by decide⟩) (cwV 2 hts g_mc_X12_mustBe_3 rfl rfl rfl (by decide +kernel) ⟨Nat.le_of_ble_eq_true rfl, Nat.le_of_ble_eq_true rfl⟩) hK hDD hA0 hP hS 0 12 wm0 rfl rfl hl.1 (Nat.le_of_ble_eq_true rfl) dX12_mustBe_85 (fun z25 A26 H locs hw27 hP hS => ?_)
      obtain ⟨hI, hf28, hw27⟩ := hw27
      refine x_iast hx hb hK hP hDD hS 28 1 wm28 rfl (by omega) (by decide) dX12_mustBe_88 ws28 (fun H locs hP hS => ?_)
      have hI := hI.st (j := 28) (i := (6 * (A 0 47) + z13).toNat) (v := z25) (show (-2147483648 : Int) ≤ z25 ∧ z25 ≤ 2147483647 from (by omega))
      refine lv_aload_n hx hb dX12_mustBe_89 rfl (lv_at hl 1 rfl) ?_
      refine va_get (D := (dC, dI)) (ci := 12) (v := .int (iI (A26 0 8))) (C := RX12) (T := TX12) (N := 85) hx hb hts hiX12 hown hK hP 0 wm0 rfl 8 (by decide) (hts _ (List.mem_of_getElem? (i := 8) rfl)) (fun _ h9 => h9) rfl dX12_mustBe_90 ?_
      have r_A26_0_8 : (0 : Int) ≤ (A26 0 8) ∧ (A26 0 8) ≤ 5 := hI 0 8
      refine lv_if_ne (tgt := 109) hx hb dX12_mustBe_93 (by decide) (fun c29 => ?_) (fun c29 => ?_)
      · have c29 : ¬ (A26 0 8) = 0 := mt (i_eq0 (rb r_A26_0_8 (by decide) (by decide))).mpr c29
        exact RET _ _ _ _ _ ⟨hI, fr.st (fr.trans (fr_def hA24 (fr.st (fr.trans (fr_def hA18 (fr.st (fr.trans (fr.trans (fr.rf) hf11 rfl rfl) hf17 rfl rfl) (by decide) rfl)) hf22 rfl rfl) (by decide) rfl)) hf28 rfl rfl) (by decide) rfl, trivial⟩ hP hS dX12_mustBe_109
      · have c29 : (A26 0 8) = 0 := (i_eq0 (rb r_A26_0_8 (by decide) (by decide))).mp c29
        refine lv_aload_n hx hb dX12_mustBe_96 rfl (lv_at hl 1 rfl) ?_
        refine va_get (D := (dC, dI)) (ci := 12) (v := .ref (q 25)) (C := RX12) (T := TX12) (N := 85) hx hb hts hiX12 hown hK hP 0 wm0 rfl 36 (by decide) (hts _ (List.mem_of_getElem? (i := 1) rfl)) (fun _ h9 => h9) rfl dX12_mustBe_97 ?_
        refine lv_aload_n hx hb dX12_mustBe_100 rfl (lv_at hl 1 rfl) ?_
        have e_A15_47 : A15 0 47 = (A 0 47) := (hf17.2 47 rfl).trans e_A9_47
        have e_A18_47 : A18 0 47 = (A 0 47) := by rw [hA18]; exact e_A15_47
        have e_A20_47 : A20 0 47 = (A 0 47) := (hf22.2 47 rfl).trans e_A18_47
        have e_A24_47 : A24 0 47 = (A 0 47) := by rw [hA24]; exact e_A20_47
        have e_A26_47 : A26 0 47 = (A 0 47) := (hf28.2 47 rfl).trans e_A24_47
        refine va_get (D := (dC, dI)) (ci := 12) (v := .int (iI (A26 0 47))) (C := RX12) (T := TX12) (N := 85) hx hb hts hiX12 hown hK hP 0 wm0 rfl 47 (by decide) (hts _ (List.mem_of_getElem? (i := 2) rfl)) (fun _ h9 => h9) rfl dX12_mustBe_101 ?_
        refine tp_i (y := iI (A 0 47)) (congrArg iI e_A26_47) ?_
        refine lv_dup2_11 hx hb dX12_mustBe_104 rfl rfl ?_
        have a_A15_25 : A15 25 = A 25 := (hf17.1 25 (by decide) rfl).trans a_A9_25
        have a_A18_25 : A18 25 = A 25 := by rw [hA18]; exact a_A15_25
        have a_A20_25 : A20 25 = A 25 := (hf22.1 25 (by decide) rfl).trans a_A18_25
        have a_A24_25 : A24 25 = A 25 := by rw [hA24]; exact a_A20_25
        have a_A26_25 : A26 25 = A 25 := (hf28.1 25 (by decide) rfl).trans a_A24_25
        refine x_iald hx hb hK hP 25 1 wm25 rfl (by omega) (by decide) dX12_mustBe_105 (fun z30 hz30 => ?_)
        have rz30 : (0 : Int) ≤ z30 ∧ z30 ≤ 6 := by rw [hz30]; exact hI 25 _
        have hz30 : z30 = A 25 ((A 0 47)).toNat := hz30.trans (congrFun a_A26_25 _)
        have ez30 : z30 = z1 := hz30.trans hz1.symm
        refine lv_iconst (v := iI 1) hx hb dX12_mustBe_106 (by decide +kernel) ?_
        refine x_addv (v := z30 + 1) hx hb dX12_mustBe_107 (by omega) ?_
        refine x_iast hx hb hK hP hDD hS 25 1 wm25 rfl (by omega) (by decide) dX12_mustBe_108 ws25 (fun H locs hP hS => ?_)
        have hI := hI.st (j := 25) (i := ((A 0 47)).toNat) (v := z30 + 1) (show (0 : Int) ≤ z30 + 1 ∧ z30 + 1 ≤ 6 from (by omega))
        exact RET _ _ _ _ _ ⟨hI, fr.st (fr.st (fr.trans (fr_def hA24 (fr.st (fr.trans (fr_def hA18 (fr.st (fr.trans (fr.trans (fr.rf) hf11 rfl rfl) hf17 rfl rfl) (by decide) rfl)) hf22 rfl rfl) (by decide) rfl)) hf28 rfl rfl) (by decide) rfl) (by decide) rfl, trivial⟩ hP hS dX12_mustBe_109
    · have c12 : z8 = 0 := (i_eq0 (rb rz8 (by decide) (by decide))).mp c12
      exact RET _ _ _ _ _ ⟨hI, fr.trans (fr.rf) hf11 rfl rfl, trivial⟩ hP hS dX12_mustBe_26
  refine lv_icmp_ne (tgt := 19) hx hb dX12_mustBe_12 (by decide) (fun c2 => ?_) (fun c2 => ?_)
  · have c2 : ¬ z1 = 6 := mt (i_eq (rb rz1 (by decide) (by decide)) ⟨by decide, by decide⟩).mpr c2
    refine lv_iconst (v := iI 0) hx hb dX12_mustBe_19 (by decide +kernel) ?_
    exact J20_3 0 _ _ _ (by omega) (by omega) hP hS (lv_sub hl [0] rfl)
  · have c2 : z1 = 6 := (i_eq (rb rz1 (by decide) (by decide)) ⟨by decide, by decide⟩).mp c2
    refine lv_iconst (v := iI 1) hx hb dX12_mustBe_15 (by decide +kernel) ?_
    refine lv_goto (tgt := 20) hx hb dX12_mustBe_16 (by decide) ?_
    exact J20_3 1 _ _ _ (by omega) (by omega) hP hS (lv_sub hl [0] rfl)
