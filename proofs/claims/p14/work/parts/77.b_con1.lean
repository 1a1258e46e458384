set_option maxHeartbeats 4000000 in
set_option maxRecDepth 100000 in
theorem mb_X12_goesOn_c215 (l : Launch) (dC : Nat → ClassId) (dI : Nat → Nat → Nat) (cB cI cJ cZ cQ : ClassId) (q : Nat → Nat) (A : St) (hI : IM A) (hp0 : RI 1 A) (hp1 : A 0 8 = 0) (hp2 : PR A) (hp3 : A 0 57 = 1) (hp4 : SP A) (hcCI : CI A) (p : Program) (e : Env) (s : State) (m : MethodId) (below : List Frame) (meth : Method) (c : Code) (Q : State → Prop) (AS : Nat → Prop) (hx : p.tables.exec = Jvm.exec) (hb : c.code = cX12_goesOn) (hml : c.maxLocals = 5) (hown : s.vm.findClass RX12 = some m.cls) (hts : ∀ w ∈ ws_mb_X12_goesOn, w.before [.ref (q 0)].toArray s = true) (hK : va_K (dC, dI) vwCl (tyA cB cI cJ cZ cQ) s) (hDD : ∀ A', va_D AS (WM cI cJ cZ q A')) (hA0 : ∀ b : Nat, s.heap.size ≤ b → AS b) (RET : ∀ (z : Int) (u : St) (H : Heap) (locs : List Loc) (pc : Nat) (ls : Array Slot), ((fun z u => r_X12_goesOn A z u ∧ IM u ∧ fr [33, 34, 35, 36, 37, 40] [3, 4, 5, 6, 7, 8, 9, 46, 53, 54, 56, 57] A u ∧ CI u ∧ ((0 ≤ z ∧ z ≤ 1) ∧ (Hd (u 0 8 = 0 → (z = 1 → RI (u 0 57) u ∧ (PR u ∧ SP u) ∧ A 0 4 + 1 ≤ u 0 4) ∧ (z = 0 → DP (u 33) (sA u) (1600 * u 0 47 + u 0 46) 1 ∧ CB u ∧ A 0 4 ≤ u 0 4))))) z u) → va_P (dC, dI) vwCl (WM cI cJ cZ q u) H → va_S AS s.heap H locs → decode cX12_goesOn pc = .ok (.ireturn, 1) → W p l e (headSpec ws_mb_X12_goesOn ({ frames := 2, cells := 0, slots := 0, locals := 47 } : Room)).room s m [.ref (q 0)].toArray below meth c H locs 0 0 Q (F0 m pc ls [.int (iI z)])) (H : Heap) (locs : List Loc) (ls : Array Slot) (z1 z2 : Int) (rz1 : (0 : Int) ≤ z1 ∧ z1 ≤ 5) (rz2 : (0 : Int) ≤ z2 ∧ z2 ≤ 1) (hz1 : z1 = A 35 ((A 0 53) - 1).toNat) (hs3 : A 0 3 = 3) (hph0 : A 36 ((A 0 53) - 1).toNat = 0) (hk3 : ∀ (z : Int) (u : St), (d_X12_goesOn_3 A z u z1 z2) → r_X12_goesOn A z u) (hP : va_P (dC, dI) vwCl (WM cI cJ cZ q A) H) (hS : va_S AS s.heap H locs) (hl : lv_has ls 5 [(0, .ref (q 0)), (1, .int (iI ((A 0 53) - 1))), (2, .int (iI z1)), (3, .int (iI z2))]) : W p l e (headSpec ws_mb_X12_goesOn ({ frames := 2, cells := 0, slots := 0, locals := 47 } : Room)).room s m [.ref (q 0)].toArray below meth c H locs 0 0 Q (F0 m 215 ls []) := by
  have hiX12 : ∀ w ∈ u_ws RX12 TX12 85, w ∈ ws_mb_X12_goesOn := fun w h => List.mem_cons_of_mem _ (wx_lay w h)
  have hI0 := hI
  have hdp := RI.deep hp0 hI0
  have hrm := RI.room hp0 hI0
  have r_A_0_3 : (0 : Int) ≤ (A 0 3) ∧ (A 0 3) ≤ 3 := hI 0 3
  have r_A_0_4 : (0 : Int) ≤ (A 0 4) ∧ (A 0 4) ≤ 1600 := hI 0 4
  have r_A_0_5 : (0 : Int) ≤ (A 0 5) ∧ (A 0 5) ≤ 1600 := hI 0 5
  have r_A_0_7 : (-9223372036854775808 : Int) ≤ (A 0 7) ∧ (A 0 7) ≤ 9223372036854775807 := hI 0 7
  have r_A_0_8 : (0 : Int) ≤ (A 0 8) ∧ (A 0 8) ≤ 5 := hI 0 8
  have r_A_0_46 : (0 : Int) ≤ (A 0 46) ∧ (A 0 46) ≤ 1600 := hI 0 46
  have r_A_0_47 : (0 : Int) ≤ (A 0 47) ∧ (A 0 47) ≤ 1 := hI 0 47
  have r_A_0_53 : (0 : Int) ≤ (A 0 53) ∧ (A 0 53) ≤ 20 := hI 0 53
  have r_A_0_54 : (0 : Int) ≤ (A 0 54) ∧ (A 0 54) ≤ 8 := hI 0 54
  have r_A_0_56 : (0 : Int) ≤ (A 0 56) ∧ (A 0 56) ≤ 500 := hI 0 56
  have hop := hp0.1
  refine lv_aload_n hx hb dX12_goesOn_215 rfl (lv_at hl 0 rfl) ?_
  refine lv_iconst (v := iI 5) hx hb dX12_goesOn_216 (by decide +kernel) ?_
  refine x_callv (As := [.int (iI 5)]) (rest := []) ⟨hx, hb, hml, hown, hts⟩ (mb_X12_joins l dC dI cB cI cJ cZ cQ q _ 5 hI ⟨by decide, by decide⟩ (by exact hp0) hcCI hp4) (cwV 1 hts (goodV (wl_in_2 _ (List.mem_of_getElem? (i := 10) rfl)) (wl_in_2 _ (List.mem_of_getElem? (i := 11) rfl)) (wl_in_2 _ (List.mem_of_getElem? (i := 12) rfl)) (wl_in_0 _ (List.mem_of_getElem? (i := 8) rfl)) (wl_in_1 _ (List.mem_of_getElem? (i := 34) rfl))) rfl rfl rfl (by decide +kernel) ⟨Nat.le_of_ble_eq_true rfl, Nat.le_of_ble_eq_true rfl⟩) hK hDD hA0 hP hS 0 12 wm0 rfl rfl hl.1 (Nat.le_of_ble_eq_true rfl) dX12_goesOn_217 (fun A275 H locs hw276 hP hS => ?_)
  have ghw276 : q_X12_joins 5 A A275 := hw276
  obtain ⟨_, hI, hf277, hw276⟩ := hw276
  obtain ⟨hc278, hw276⟩ := hw276
  obtain ⟨hc279, hw276⟩ := hw276
  have e_A275_53 : A275 0 53 = (A 0 53) := (hf277.2 53 rfl)
  have r_A275_0_56 : (0 : Int) ≤ (A275 0 56) ∧ (A275 0 56) ≤ 500 := hI 0 56
  have hj1 := hw276.1
  have hj2 := Hd.mk hw276.2
  clear hw276
  have hIj := hI
  have hrj := RI.room hj1 hIj
  have e_A275_3 : A275 0 3 = (A 0 3) := (hf277.2 3 rfl)
  have e_A275_4 : A275 0 4 = (A 0 4) := (hf277.2 4 rfl)
  have e_A275_5 : A275 0 5 = (A 0 5) := (hf277.2 5 rfl)
  have e_A275_7 : A275 0 7 = (A 0 7) := (hf277.2 7 rfl)
  have e_A275_8 : A275 0 8 = (A 0 8) := (hf277.2 8 rfl)
  have e_A275_47 : A275 0 47 = (A 0 47) := (hf277.2 47 rfl)
  have e_A275_54 : A275 0 54 = (A 0 54) := (hf277.2 54 rfl)
  have r_A275_0_46 : (0 : Int) ≤ (A275 0 46) ∧ (A275 0 46) ≤ 1600 := hI 0 46
  refine lv_aload_n hx hb dX12_goesOn_220 rfl (lv_at hl 0 rfl) ?_
  refine lv_aload_n hx hb dX12_goesOn_221 rfl (lv_at hl 0 rfl) ?_
  refine lv_bipush (v := iI 60) hx hb dX12_goesOn_222 (by decide +kernel) ?_
  have e_A275_6 : A275 0 6 = (A 0 6) := (hf277.2 6 rfl)
  have r_A_0_6 : (-2147483648 : Int) ≤ (A 0 6) ∧ (A 0 6) ≤ 2147483647 := by rw [← e_A275_6]; exact hI 0 6
  refine x_calli (As := [.int (iI 60)]) (rest := [.ref (q 0)]) ⟨hx, hb, hml, hown, hts⟩ (mb_X12_isSign l dC dI cB cI cJ cZ cQ q _ 60 hI ⟨by decide, by decide⟩) (cwV 1 hts (goodV (wl_in_0 _ (List.mem_of_getElem? (i := 37) rfl)) (wl_in_0 _ (List.mem_of_getElem? (i := 38) rfl)) (wl_in_0 _ (List.mem_of_getElem? (i := 39) rfl)) (wl_in_0 _ (List.mem_of_getElem? (i := 8) rfl)) (wl_in_0 _ (List.mem_of_getElem? (i := 34) rfl))) rfl rfl rfl (by decide +kernel) ⟨Nat.le_of_ble_eq_true rfl, Nat.le_of_ble_eq_true rfl⟩) hK hDD hA0 hP hS 0 12 wm0 rfl rfl hl.1 (Nat.le_of_ble_eq_true rfl) dX12_goesOn_224 (fun z280 A281 H locs hw282 hP hS => ?_)
  obtain ⟨rfl, hw282⟩ := hw282
  have ghw282 : q_X12_isSign 60 A275 z280 := hw282
  have hw282 := hw282.2
  have rz280 : 0 ≤ z280 ∧ z280 ≤ 1 := hw282.1
  replace hw282 := Hd.mk hw282.2
  refine lv_if_eq (tgt := 235) hx hb dX12_goesOn_227 (by decide) (fun c283 => ?_) (fun c283 => ?_)
  · have c283 : z280 = 0 := (i_eq0 (rb rz280 (by decide) (by decide))).mp c283
    refine lv_aload_n hx hb dX12_goesOn_235 rfl (lv_at hl 0 rfl) ?_
    refine lv_bipush (v := iI 62) hx hb dX12_goesOn_236 (by decide +kernel) ?_
    refine x_calli (As := [.int (iI 62)]) (rest := [.ref (q 0)]) ⟨hx, hb, hml, hown, hts⟩ (mb_X12_isSign l dC dI cB cI cJ cZ cQ q _ 62 hI ⟨by decide, by decide⟩) (cwV 1 hts (goodV (wl_in_0 _ (List.mem_of_getElem? (i := 37) rfl)) (wl_in_0 _ (List.mem_of_getElem? (i := 38) rfl)) (wl_in_0 _ (List.mem_of_getElem? (i := 39) rfl)) (wl_in_0 _ (List.mem_of_getElem? (i := 8) rfl)) (wl_in_0 _ (List.mem_of_getElem? (i := 34) rfl))) rfl rfl rfl (by decide +kernel) ⟨Nat.le_of_ble_eq_true rfl, Nat.le_of_ble_eq_true rfl⟩) hK hDD hA0 hP hS 0 12 wm0 rfl rfl hl.1 (Nat.le_of_ble_eq_true rfl) dX12_goesOn_238 (fun z284 A285 H locs hw286 hP hS => ?_)
    obtain ⟨rfl, hw286⟩ := hw286
    have ghw286 : q_X12_isSign 62 A275 z284 := hw286
    have hw286 := hw286.2
    have rz284 : 0 ≤ z284 ∧ z284 ≤ 1 := hw286.1
    replace hw286 := Hd.mk hw286.2
    refine lv_if_eq (tgt := 249) hx hb dX12_goesOn_241 (by decide) (fun c287 => ?_) (fun c287 => ?_)
    · have c287 : z284 = 0 := (i_eq0 (rb rz284 (by decide) (by decide))).mp c287
      refine lv_bipush (v := iI 19) hx hb dX12_goesOn_249 (by decide +kernel) ?_
      refine x_callv (As := [.int (iI 19)]) (rest := []) ⟨hx, hb, hml, hown, hts⟩ (mb_X12_holdsBack l dC dI cB cI cJ cZ cQ q _ 19 hI ⟨by decide, by decide⟩ (by omega)) (cwV 1 hts (goodV (wl_in_2 _ (List.mem_of_getElem? (i := 2) rfl)) (wl_in_2 _ (List.mem_of_getElem? (i := 3) rfl)) (wl_in_2 _ (List.mem_of_getElem? (i := 4) rfl)) (wl_in_0 _ (List.mem_of_getElem? (i := 8) rfl)) (wl_in_1 _ (List.mem_of_getElem? (i := 44) rfl))) rfl rfl rfl (by decide +kernel) ⟨Nat.le_of_ble_eq_true rfl, Nat.le_of_ble_eq_true rfl⟩) hK hDD hA0 hP hS 0 12 wm0 rfl rfl hl.1 (Nat.le_of_ble_eq_true rfl) dX12_goesOn_251 (fun A288 H locs hw289 hP hS => ?_)
      have ghw289 : q_X12_holdsBack 19 A275 A288 := hw289
      obtain ⟨_, hI, hf290, hw289⟩ := hw289
      have r_A288_0_56 : (0 : Int) ≤ (A288 0 56) ∧ (A288 0 56) ≤ 500 := hI 0 56
      refine lv_aload_n hx hb dX12_goesOn_254 rfl (lv_at hl 0 rfl) ?_
      refine va_get (D := (dC, dI)) (ci := 12) (v := .ref (q 36)) (C := RX12) (T := TX12) (N := 85) hx hb hts hiX12 hown hK hP 0 wm0 rfl 49 (by decide) (hts _ (List.mem_cons_of_mem _ (wl_in_1 _ (List.mem_of_getElem? (i := 47) rfl)))) (fun _ h9 => h9) rfl dX12_goesOn_255 ?_
      refine lv_iload_n hx hb dX12_goesOn_258 rfl (lv_at hl 1 rfl) ?_
      refine lv_iconst (v := iI 1) hx hb dX12_goesOn_259 (by decide +kernel) ?_
      refine x_iast hx hb hK hP hDD hS 36 1 wm36 rfl (by omega) (by decide) dX12_goesOn_260 ws36 (fun H locs hP hS => ?_)
      have hI := hI.st (j := 36) (i := ((A 0 53) - 1).toNat) (v := 1) (show (0 : Int) ≤ 1 ∧ 1 ≤ 2 from (by omega))
      refine lv_aload_n hx hb dX12_goesOn_261 rfl (lv_at hl 0 rfl) ?_
      obtain ⟨A291, hA291⟩ : ∃ A291 : St, A291 = (stA A288 36 ((A 0 53) - 1).toNat 1) := ⟨_, rfl⟩
      rw [← hA291] at hP hI
      have e_A288_4 : A288 0 4 = (A 0 4) := (hf290.2 4 rfl).trans e_A275_4
      have e_A291_4 : A291 0 4 = (A 0 4) := by rw [hA291]; exact e_A288_4
      have e_A288_5 : A288 0 5 = (A 0 5) := (hf290.2 5 rfl).trans e_A275_5
      have e_A291_5 : A291 0 5 = (A 0 5) := by rw [hA291]; exact e_A288_5
      have e_A288_8 : A288 0 8 = (A 0 8) := (hf290.2 8 rfl).trans e_A275_8
      have e_A291_8 : A291 0 8 = (A 0 8) := by rw [hA291]; exact e_A288_8
      refine x_callv (As := []) (rest := []) ⟨hx, hb, hml, hown, hts⟩ (mb_X12_ahead l dC dI cB cI cJ cZ cQ q _ hI) (cwV 0 hts (goodV (wl_in_0 _ (List.mem_of_getElem? (i := 40) rfl)) (wl_in_0 _ (List.mem_of_getElem? (i := 41) rfl)) (wl_in_0 _ (List.mem_of_getElem? (i := 42) rfl)) (wl_in_0 _ (List.mem_of_getElem? (i := 8) rfl)) (wl_in_0 _ (List.mem_of_getElem? (i := 20) rfl))) rfl rfl rfl (by decide +kernel) ⟨Nat.le_of_ble_eq_true rfl, Nat.le_of_ble_eq_true rfl⟩) hK hDD hA0 hP hS 0 12 wm0 rfl rfl hl.1 (Nat.le_of_ble_eq_true rfl) dX12_goesOn_262 (fun A292 H locs hw293 hP hS => ?_)
      have ghw293 : q_X12_ahead A291 A292 := hw293
      obtain ⟨_, hI, hf294, hw293⟩ := hw293
      have r_A292_0_3 : (0 : Int) ≤ (A292 0 3) ∧ (A292 0 3) ≤ 3 := hI 0 3
      have r_A292_0_4 : (0 : Int) ≤ (A292 0 4) ∧ (A292 0 4) ≤ 1600 := hI 0 4
      have r_A292_0_5 : (0 : Int) ≤ (A292 0 5) ∧ (A292 0 5) ≤ 1600 := hI 0 5
      have r_A292_0_8 : (0 : Int) ≤ (A292 0 8) ∧ (A292 0 8) ≤ 5 := hI 0 8
      have hw293x := hw293.1
      have hw293y := hw293.2.1
      replace hw293 := Hd.mk hw293
      refine lv_aload_n hx hb dX12_goesOn_265 rfl (lv_at hl 0 rfl) ?_
      refine lv_iconst (v := iI 0) hx hb dX12_goesOn_266 (by decide +kernel) ?_
      refine x_put (D := (dC, dI)) (ci := 12) (v := .int (iI 0)) (ty := .boolean) (C := RX12) (T := TX12) (N := 85) hx hb hts hiX12 tyX12 tyX12_ok nmX12 hown hK hP hDD hS 0 wm0 rfl 57 (by decide) (hts _ (List.mem_cons_of_mem _ (wl_in_2 _ (List.mem_of_getElem? (i := 9) rfl)))) (fun _ h9 => h9) rfl (by decide +kernel) (by decide +kernel) rfl (Nat.le_of_ble_eq_true rfl) dX12_goesOn_267 (wf57 (v := 0)) (fun H locs hP hS => ?_)
      have hI := hI.st (j := 0) (i := 57) (v := 0) (show (0 : Int) ≤ 0 ∧ 0 ≤ 1 from (by omega))
      refine lv_iconst (v := iI 1) hx hb dX12_goesOn_270 (by decide +kernel) ?_
      obtain ⟨A295, hA295⟩ : ∃ A295 : St, A295 = (stA A292 0 57 0) := ⟨_, rfl⟩
      rw [← hA295] at hP hI
      have e_A295_4 : A295 0 4 = (A292 0 4) := by rw [hA295]; exact rfl
      have e_A295_5 : A295 0 5 = (A292 0 5) := by rw [hA295]; exact rfl
      have e_A295_8 : A295 0 8 = (A292 0 8) := by rw [hA295]; exact rfl
      have e_A288_46 : A288 0 46 = (A275 0 46) := (hf290.2 46 rfl)
      have e_A291_46 : A291 0 46 = (A275 0 46) := by rw [hA291]; exact e_A288_46
      have e_A292_46 : A292 0 46 = (A275 0 46) := (hf294.2 46 rfl).trans e_A291_46
      have e_A295_46 : A295 0 46 = (A275 0 46) := by rw [hA295]; exact e_A292_46
      have e_A288_47 : A288 0 47 = (A 0 47) := (hf290.2 47 rfl).trans e_A275_47
      have e_A291_47 : A291 0 47 = (A 0 47) := by rw [hA291]; exact e_A288_47
      have e_A292_47 : A292 0 47 = (A 0 47) := (hf294.2 47 rfl).trans e_A291_47
      have e_A295_47 : A295 0 47 = (A 0 47) := by rw [hA295]; exact e_A292_47
      have e_A295_57 : A295 0 57 = 0 := by rw [hA295]; rfl
      have ca296 : A275 35 = A 35 := (hf277.1 35 (by decide) rfl)
      have ca297 : A295 1 = A292 1 := by rw [hA295]; exact rfl
      have e_A295_3 : A295 0 3 = (A292 0 3) := by rw [hA295]; exact rfl
      have e_A295_7 : A295 0 7 = (A292 0 7) := by rw [hA295]; exact rfl
      have hlt := RI.lt hp0 (by omega)
      have ca298 : A291 40 = A288 40 := by rw [hA291]; exact rfl
      have ca299 : A292 40 = A288 40 := (hf294.1 40 (by decide) rfl).trans ca298
      have ca300 : A295 40 = A288 40 := by rw [hA295]; exact ca299
      have e_A291_56 : A291 0 56 = (A288 0 56) := by rw [hA291]; exact rfl
      have e_A292_56 : A292 0 56 = (A288 0 56) := (hf294.2 56 rfl).trans e_A291_56
      have e_A295_56 : A295 0 56 = (A288 0 56) := by rw [hA295]; exact e_A292_56
      have ca301 : A288 29 = A275 29 := (hf290.1 29 (by decide) rfl)
      have ca302 : A291 29 = A275 29 := by rw [hA291]; exact ca301
      have ca303 : A292 29 = A275 29 := (hf294.1 29 (by decide) rfl).trans ca302
      have ca304 : A295 29 = A275 29 := by rw [hA295]; exact ca303
      have ca305 : A288 31 = A275 31 := (hf290.1 31 (by decide) rfl)
      have ca306 : A291 31 = A275 31 := by rw [hA291]; exact ca305
      have ca307 : A292 31 = A275 31 := (hf294.1 31 (by decide) rfl).trans ca306
      have ca308 : A295 31 = A275 31 := by rw [hA295]; exact ca307
      have ca309 : A288 33 = A275 33 := (hf290.1 33 (by decide) rfl)
      have ca310 : A291 33 = A275 33 := by rw [hA291]; exact ca309
      have ca311 : A292 33 = A275 33 := (hf294.1 33 (by decide) rfl).trans ca310
      have ca312 : A295 33 = A275 33 := by rw [hA295]; exact ca311
      have ca313 : A288 35 = A275 35 := (hf290.1 35 (by decide) rfl)
      have ca314 : A291 35 = A275 35 := by rw [hA291]; exact ca313
      have ca315 : A292 35 = A275 35 := (hf294.1 35 (by decide) rfl).trans ca314
      have ca316 : A295 35 = A275 35 := by rw [hA295]; exact ca315
      have ca317 : A288 37 = A275 37 := (hf290.1 37 (by decide) rfl)
      have ca318 : A291 37 = A275 37 := by rw [hA291]; exact ca317
      have ca319 : A292 37 = A275 37 := (hf294.1 37 (by decide) rfl).trans ca318
      have ca320 : A295 37 = A275 37 := by rw [hA295]; exact ca319
      have ca321 : A288 39 = A275 39 := (hf290.1 39 (by decide) rfl)
      have ca322 : A291 39 = A275 39 := by rw [hA291]; exact ca321
      have ca323 : A292 39 = A275 39 := (hf294.1 39 (by decide) rfl).trans ca322
      have ca324 : A295 39 = A275 39 := by rw [hA295]; exact ca323
      have e_A288_53 : A288 0 53 = (A 0 53) := (hf290.2 53 rfl).trans e_A275_53
      have e_A291_53 : A291 0 53 = (A 0 53) := by rw [hA291]; exact e_A288_53
      have e_A292_53 : A292 0 53 = (A 0 53) := (hf294.2 53 rfl).trans e_A291_53
      have e_A295_53 : A295 0 53 = (A 0 53) := by rw [hA295]; exact e_A292_53
      have e_A288_54 : A288 0 54 = (A 0 54) := (hf290.2 54 rfl).trans e_A275_54
      have e_A291_54 : A291 0 54 = (A 0 54) := by rw [hA291]; exact e_A288_54
      have e_A292_54 : A292 0 54 = (A 0 54) := (hf294.2 54 rfl).trans e_A291_54
      have e_A295_54 : A295 0 54 = (A 0 54) := by rw [hA295]; exact e_A292_54
      have ca325 : A288 36 = A275 36 := (hf290.1 36 (by decide) rfl)
      have e36 : A291 36 = up (A275 36) ((A 0 53) - 1).toNat 1 := by rw [hA291]; show up (A288 36) _ _ = _; rw [ca325]
      have ca326 : A292 36 = A291 36 := (hf294.1 36 (by decide) rfl)
      have ca327 : A295 36 = A291 36 := by rw [hA295]; exact ca326
      have ca328 : A275 36 = A 36 := (hf277.1 36 (by decide) rfl)
      have h36 : A275 36 (A275 0 53 - 1).toNat = 0 := by rw [ca328, e_A275_53]; omega
      have hlow := SP.low (k := 0) hc279 h36 hIj (RI.base hj1) hj2.out
      have ca329 : A288 39 = A275 39 := (hf290.1 39 (by decide) rfl)
      have ca330 : A291 39 = A275 39 := by rw [hA291]; exact ca329
      have ca331 : A292 39 = A275 39 := (hf294.1 39 (by decide) rfl).trans ca330
      have ca332 : A295 39 = A275 39 := by rw [hA295]; exact ca331
      exact RET 1 _ _ _ _ _ ⟨hk3 _ _ (u_d_X12_goesOn_3 ⟨A275, ghw276, ⟨z280, ghw282, (Or.inl ⟨c283, ⟨z284, ghw286, (Or.inl ⟨c287, ⟨A288, ghw289, ⟨A291, hA291, ⟨A292, ghw293, ⟨A295, hA295, ⟨rfl, rfl⟩⟩⟩⟩⟩⟩)⟩⟩)⟩⟩), hI, fr_def hA295 (fr.sf (fr.trans (fr_def hA291 (fr.st (fr.trans (fr.trans (fr.rf) hf277 rfl rfl) hf290 rfl rfl) (by decide) rfl)) hf294 rfl rfl) rfl), (CI.fr (CI.fr (CI.fr (CI.fr hc278 hf290 rfl rfl) (fr_def hA291 (fr.st (fr.rf (M := [36]) (N := [])) (by decide) rfl)) rfl rfl) hf294 rfl rfl) (fr_def hA295 (fr.sf (fr.rf (M := []) (N := [57])) rfl)) rfl rfl), ⟨by decide, Hd.mk (fun h0 => ⟨fun _ => ⟨by rw [e_A295_57]; exact RI.op (x := 19) (r37 := A275 37) hj1 hIj (by rw [e_A275_3]; rw [hs3]; decide) (by decide) (hlow.imp id (fun t => by rw [show rk 19 = 4 by decide]; exact t)) (fun _ _ => rfl) (fun h => absurd h (by rw [RI.nn hj1 rfl]; decide)) ⟨ca304, ca308, ca312, ca316, ca320, ca324, (ca300.trans hw289.2), e_A295_46, (e_A295_47.trans e_A275_47.symm), (e_A295_53.trans e_A275_53.symm), (e_A295_54.trans e_A275_54.symm), (e_A295_56.trans hw289.1)⟩ (by rw [← (e_A291_5.trans e_A275_5.symm), e_A295_4]; exact hw293x) (by rw [e_A295_4, e_A295_5]; exact hw293y) (LX.of ca297 e_A295_3 e_A295_4 e_A295_5 e_A295_7 hw293.out.2.2.1), ⟨(PR.fr (PR.fr (PR.fr (PR.fr (PR.fr hp2 hf277 rfl rfl) hf290 rfl rfl) (fr_def hA291 (fr.st (fr.rf (M := [36]) (N := [])) (by decide) rfl)) rfl rfl) hf294 rfl rfl) (fr_def hA295 (fr.sf (fr.rf (M := []) (N := [57])) rfl)) rfl rfl), SP.push (x := 19) (ph := 1) (r36 := up (A275 36) ((A 0 53) - 1).toNat 1) hc279 hIj hj1.2.1 (RI.deep hj1 hIj).1 (ca327.trans e36) (fun i hi => up_lo e_A275_53 hi) (by rw [e_A275_53, up_same]) ca332 (ca300.trans hw289.2) (e_A295_53.trans e_A275_53.symm) (e_A295_56.trans hw289.1) ((hlow.imp id (fun t => by rw [show rk 19 = 4 by decide]; exact t)).imp id Int.le_of_lt) (fun h => absurd h (by decide))⟩, by omega⟩, fun h => absurd h (by decide)⟩)⟩⟩ hP hS dX12_goesOn_271
    · have c287 : ¬ z284 = 0 := mt (i_eq0 (rb rz284 (by decide) (by decide))).mpr c287
      have hw286b := hw286.out.mp (by omega)
      refine lv_bipush (v := iI 18) hx hb dX12_goesOn_244 (by decide +kernel) ?_
      refine lv_goto (tgt := 251) hx hb dX12_goesOn_246 (by decide) ?_
      refine x_callv (As := [.int (iI 18)]) (rest := []) ⟨hx, hb, hml, hown, hts⟩ (mb_X12_holdsBack l dC dI cB cI cJ cZ cQ q _ 18 hI ⟨by decide, by decide⟩ (by omega)) (cwV 1 hts (goodV (wl_in_2 _ (List.mem_of_getElem? (i := 2) rfl)) (wl_in_2 _ (List.mem_of_getElem? (i := 3) rfl)) (wl_in_2 _ (List.mem_of_getElem? (i := 4) rfl)) (wl_in_0 _ (List.mem_of_getElem? (i := 8) rfl)) (wl_in_1 _ (List.mem_of_getElem? (i := 44) rfl))) rfl rfl rfl (by decide +kernel) ⟨Nat.le_of_ble_eq_true rfl, Nat.le_of_ble_eq_true rfl⟩) hK hDD hA0 hP hS 0 12 wm0 rfl rfl hl.1 (Nat.le_of_ble_eq_true rfl) dX12_goesOn_251 (fun A333 H locs hw334 hP hS => ?_)
      have ghw334 : q_X12_holdsBack 18 A275 A333 := hw334
      obtain ⟨_, hI, hf335, hw334⟩ := hw334
      have r_A333_0_56 : (0 : Int) ≤ (A333 0 56) ∧ (A333 0 56) ≤ 500 := hI 0 56
      refine lv_aload_n hx hb dX12_goesOn_254 rfl (lv_at hl 0 rfl) ?_
      refine va_get (D := (dC, dI)) (ci := 12) (v := .ref (q 36)) (C := RX12) (T := TX12) (N := 85) hx hb hts hiX12 hown hK hP 0 wm0 rfl 49 (by decide) (hts _ (List.mem_cons_of_mem _ (wl_in_1 _ (List.mem_of_getElem? (i := 47) rfl)))) (fun _ h9 => h9) rfl dX12_goesOn_255 ?_
      refine lv_iload_n hx hb dX12_goesOn_258 rfl (lv_at hl 1 rfl) ?_
      refine lv_iconst (v := iI 1) hx hb dX12_goesOn_259 (by decide +kernel) ?_
      refine x_iast hx hb hK hP hDD hS 36 1 wm36 rfl (by omega) (by decide) dX12_goesOn_260 ws36 (fun H locs hP hS => ?_)
      have hI := hI.st (j := 36) (i := ((A 0 53) - 1).toNat) (v := 1) (show (0 : Int) ≤ 1 ∧ 1 ≤ 2 from (by omega))
      refine lv_aload_n hx hb dX12_goesOn_261 rfl (lv_at hl 0 rfl) ?_
      obtain ⟨A336, hA336⟩ : ∃ A336 : St, A336 = (stA A333 36 ((A 0 53) - 1).toNat 1) := ⟨_, rfl⟩
      rw [← hA336] at hP hI
      have e_A333_4 : A333 0 4 = (A 0 4) := (hf335.2 4 rfl).trans e_A275_4
      have e_A336_4 : A336 0 4 = (A 0 4) := by rw [hA336]; exact e_A333_4
      have e_A333_5 : A333 0 5 = (A 0 5) := (hf335.2 5 rfl).trans e_A275_5
      have e_A336_5 : A336 0 5 = (A 0 5) := by rw [hA336]; exact e_A333_5
      have e_A333_8 : A333 0 8 = (A 0 8) := (hf335.2 8 rfl).trans e_A275_8
      have e_A336_8 : A336 0 8 = (A 0 8) := by rw [hA336]; exact e_A333_8
      refine x_callv (As := []) (rest := []) ⟨hx, hb, hml, hown, hts⟩ (mb_X12_ahead l dC dI cB cI cJ cZ cQ q _ hI) (cwV 0 hts (goodV (wl_in_0 _ (List.mem_of_getElem? (i := 40) rfl)) (wl_in_0 _ (List.mem_of_getElem? (i := 41) rfl)) (wl_in_0 _ (List.mem_of_getElem? (i := 42) rfl)) (wl_in_0 _ (List.mem_of_getElem? (i := 8) rfl)) (wl_in_0 _ (List.mem_of_getElem? (i := 20) rfl))) rfl rfl rfl (by decide +kernel) ⟨Nat.le_of_ble_eq_true rfl, Nat.le_of_ble_eq_true rfl⟩) hK hDD hA0 hP hS 0 12 wm0 rfl rfl hl.1 (Nat.le_of_ble_eq_true rfl) dX12_goesOn_262 (fun A337 H locs hw338 hP hS => ?_)
      have ghw338 : q_X12_ahead A336 A337 := hw338
      obtain ⟨_, hI, hf339, hw338⟩ := hw338
      have r_A337_0_3 : (0 : Int) ≤ (A337 0 3) ∧ (A337 0 3) ≤ 3 := hI 0 3
      have r_A337_0_4 : (0 : Int) ≤ (A337 0 4) ∧ (A337 0 4) ≤ 1600 := hI 0 4
      have r_A337_0_5 : (0 : Int) ≤ (A337 0 5) ∧ (A337 0 5) ≤ 1600 := hI 0 5
      have r_A337_0_8 : (0 : Int) ≤ (A337 0 8) ∧ (A337 0 8) ≤ 5 := hI 0 8
      have hw338x := hw338.1
      have hw338y := hw338.2.1
      replace hw338 := Hd.mk hw338
      refine lv_aload_n hx hb dX12_goesOn_265 rfl (lv_at hl 0 rfl) ?_
      refine lv_iconst (v := iI 0) hx hb dX12_goesOn_266 (by decide +kernel) ?_
      refine x_put (D := (dC, dI)) (ci := 12) (v := .int (iI 0)) (ty := .boolean) (C := RX12) (T := TX12) (N := 85) hx hb hts hiX12 tyX12 tyX12_ok nmX12 hown hK hP hDD hS 0 wm0 rfl 57 (by decide) (hts _ (List.mem_cons_of_mem _ (wl_in_2 _ (List.mem_of_getElem? (i := 9) rfl)))) (fun _ h9 => h9) rfl (by decide +kernel) (by decide +kernel) rfl (Nat.le_of_ble_eq_true rfl) dX12_goesOn_267 (wf57 (v := 0)) (fun H locs hP hS => ?_)
      have hI := hI.st (j := 0) (i := 57) (v := 0) (show (0 : Int) ≤ 0 ∧ 0 ≤ 1 from (by omega))
      refine lv_iconst (v := iI 1) hx hb dX12_goesOn_270 (by decide +kernel) ?_
      obtain ⟨A340, hA340⟩ : ∃ A340 : St, A340 = (stA A337 0 57 0) := ⟨_, rfl⟩
      rw [← hA340] at hP hI
      have e_A340_4 : A340 0 4 = (A337 0 4) := by rw [hA340]; exact rfl
      have e_A340_5 : A340 0 5 = (A337 0 5) := by rw [hA340]; exact rfl
      have e_A340_8 : A340 0 8 = (A337 0 8) := by rw [hA340]; exact rfl
      have e_A333_46 : A333 0 46 = (A275 0 46) := (hf335.2 46 rfl)
      have e_A336_46 : A336 0 46 = (A275 0 46) := by rw [hA336]; exact e_A333_46
      have e_A337_46 : A337 0 46 = (A275 0 46) := (hf339.2 46 rfl).trans e_A336_46
      have e_A340_46 : A340 0 46 = (A275 0 46) := by rw [hA340]; exact e_A337_46
      have e_A333_47 : A333 0 47 = (A 0 47) := (hf335.2 47 rfl).trans e_A275_47
      have e_A336_47 : A336 0 47 = (A 0 47) := by rw [hA336]; exact e_A333_47
      have e_A337_47 : A337 0 47 = (A 0 47) := (hf339.2 47 rfl).trans e_A336_47
      have e_A340_47 : A340 0 47 = (A 0 47) := by rw [hA340]; exact e_A337_47
      have e_A340_57 : A340 0 57 = 0 := by rw [hA340]; rfl
      have ca341 : A275 35 = A 35 := (hf277.1 35 (by decide) rfl)
      have ca342 : A340 1 = A337 1 := by rw [hA340]; exact rfl
      have e_A340_3 : A340 0 3 = (A337 0 3) := by rw [hA340]; exact rfl
      have e_A340_7 : A340 0 7 = (A337 0 7) := by rw [hA340]; exact rfl
      have hlt := RI.lt hp0 (by omega)
      have ca343 : A336 40 = A333 40 := by rw [hA336]; exact rfl
      have ca344 : A337 40 = A333 40 := (hf339.1 40 (by decide) rfl).trans ca343
      have ca345 : A340 40 = A333 40 := by rw [hA340]; exact ca344
      have e_A336_56 : A336 0 56 = (A333 0 56) := by rw [hA336]; exact rfl
      have e_A337_56 : A337 0 56 = (A333 0 56) := (hf339.2 56 rfl).trans e_A336_56
      have e_A340_56 : A340 0 56 = (A333 0 56) := by rw [hA340]; exact e_A337_56
      have ca346 : A333 29 = A275 29 := (hf335.1 29 (by decide) rfl)
      have ca347 : A336 29 = A275 29 := by rw [hA336]; exact ca346
      have ca348 : A337 29 = A275 29 := (hf339.1 29 (by decide) rfl).trans ca347
      have ca349 : A340 29 = A275 29 := by rw [hA340]; exact ca348
      have ca350 : A333 31 = A275 31 := (hf335.1 31 (by decide) rfl)
      have ca351 : A336 31 = A275 31 := by rw [hA336]; exact ca350
      have ca352 : A337 31 = A275 31 := (hf339.1 31 (by decide) rfl).trans ca351
      have ca353 : A340 31 = A275 31 := by rw [hA340]; exact ca352
      have ca354 : A333 33 = A275 33 := (hf335.1 33 (by decide) rfl)
      have ca355 : A336 33 = A275 33 := by rw [hA336]; exact ca354
      have ca356 : A337 33 = A275 33 := (hf339.1 33 (by decide) rfl).trans ca355
      have ca357 : A340 33 = A275 33 := by rw [hA340]; exact ca356
      have ca358 : A333 35 = A275 35 := (hf335.1 35 (by decide) rfl)
      have ca359 : A336 35 = A275 35 := by rw [hA336]; exact ca358
      have ca360 : A337 35 = A275 35 := (hf339.1 35 (by decide) rfl).trans ca359
      have ca361 : A340 35 = A275 35 := by rw [hA340]; exact ca360
      have ca362 : A333 37 = A275 37 := (hf335.1 37 (by decide) rfl)
      have ca363 : A336 37 = A275 37 := by rw [hA336]; exact ca362
      have ca364 : A337 37 = A275 37 := (hf339.1 37 (by decide) rfl).trans ca363
      have ca365 : A340 37 = A275 37 := by rw [hA340]; exact ca364
      have ca366 : A333 39 = A275 39 := (hf335.1 39 (by decide) rfl)
      have ca367 : A336 39 = A275 39 := by rw [hA336]; exact ca366
      have ca368 : A337 39 = A275 39 := (hf339.1 39 (by decide) rfl).trans ca367
      have ca369 : A340 39 = A275 39 := by rw [hA340]; exact ca368
      have e_A333_53 : A333 0 53 = (A 0 53) := (hf335.2 53 rfl).trans e_A275_53
      have e_A336_53 : A336 0 53 = (A 0 53) := by rw [hA336]; exact e_A333_53
      have e_A337_53 : A337 0 53 = (A 0 53) := (hf339.2 53 rfl).trans e_A336_53
      have e_A340_53 : A340 0 53 = (A 0 53) := by rw [hA340]; exact e_A337_53
      have e_A333_54 : A333 0 54 = (A 0 54) := (hf335.2 54 rfl).trans e_A275_54
      have e_A336_54 : A336 0 54 = (A 0 54) := by rw [hA336]; exact e_A333_54
      have e_A337_54 : A337 0 54 = (A 0 54) := (hf339.2 54 rfl).trans e_A336_54
      have e_A340_54 : A340 0 54 = (A 0 54) := by rw [hA340]; exact e_A337_54
      have ca370 : A333 36 = A275 36 := (hf335.1 36 (by decide) rfl)
      have e36 : A336 36 = up (A275 36) ((A 0 53) - 1).toNat 1 := by rw [hA336]; show up (A333 36) _ _ = _; rw [ca370]
      have ca371 : A337 36 = A336 36 := (hf339.1 36 (by decide) rfl)
      have ca372 : A340 36 = A336 36 := by rw [hA340]; exact ca371
      have ca373 : A275 36 = A 36 := (hf277.1 36 (by decide) rfl)
      have h36 : A275 36 (A275 0 53 - 1).toNat = 0 := by rw [ca373, e_A275_53]; omega
      have hlow := SP.low (k := 0) hc279 h36 hIj (RI.base hj1) hj2.out
      have ca374 : A333 39 = A275 39 := (hf335.1 39 (by decide) rfl)
      have ca375 : A336 39 = A275 39 := by rw [hA336]; exact ca374
      have ca376 : A337 39 = A275 39 := (hf339.1 39 (by decide) rfl).trans ca375
      have ca377 : A340 39 = A275 39 := by rw [hA340]; exact ca376
      exact RET 1 _ _ _ _ _ ⟨hk3 _ _ (u_d_X12_goesOn_3 ⟨A275, ghw276, ⟨z280, ghw282, (Or.inl ⟨c283, ⟨z284, ghw286, (Or.inr ⟨c287, ⟨A333, ghw334, ⟨A336, hA336, ⟨A337, ghw338, ⟨A340, hA340, ⟨rfl, rfl⟩⟩⟩⟩⟩⟩)⟩⟩)⟩⟩), hI, fr_def hA340 (fr.sf (fr.trans (fr_def hA336 (fr.st (fr.trans (fr.trans (fr.rf) hf277 rfl rfl) hf335 rfl rfl) (by decide) rfl)) hf339 rfl rfl) rfl), (CI.fr (CI.fr (CI.fr (CI.fr hc278 hf335 rfl rfl) (fr_def hA336 (fr.st (fr.rf (M := [36]) (N := [])) (by decide) rfl)) rfl rfl) hf339 rfl rfl) (fr_def hA340 (fr.sf (fr.rf (M := []) (N := [57])) rfl)) rfl rfl), ⟨by decide, Hd.mk (fun h0 => ⟨fun _ => ⟨by rw [e_A340_57]; exact RI.op (x := 18) (r37 := A275 37) hj1 hIj (by rw [e_A275_3]; rw [hs3]; decide) (by decide) (hlow.imp id (fun t => by rw [show rk 18 = 4 by decide]; exact t)) (fun _ _ => rfl) (fun h => absurd h (by rw [RI.nn hj1 rfl]; decide)) ⟨ca349, ca353, ca357, ca361, ca365, ca369, (ca345.trans hw334.2), e_A340_46, (e_A340_47.trans e_A275_47.symm), (e_A340_53.trans e_A275_53.symm), (e_A340_54.trans e_A275_54.symm), (e_A340_56.trans hw334.1)⟩ (by rw [← (e_A336_5.trans e_A275_5.symm), e_A340_4]; exact hw338x) (by rw [e_A340_4, e_A340_5]; exact hw338y) (LX.of ca342 e_A340_3 e_A340_4 e_A340_5 e_A340_7 hw338.out.2.2.1), ⟨(PR.fr (PR.fr (PR.fr (PR.fr (PR.fr hp2 hf277 rfl rfl) hf335 rfl rfl) (fr_def hA336 (fr.st (fr.rf (M := [36]) (N := [])) (by decide) rfl)) rfl rfl) hf339 rfl rfl) (fr_def hA340 (fr.sf (fr.rf (M := []) (N := [57])) rfl)) rfl rfl), SP.push (x := 18) (ph := 1) (r36 := up (A275 36) ((A 0 53) - 1).toNat 1) hc279 hIj hj1.2.1 (RI.deep hj1 hIj).1 (ca372.trans e36) (fun i hi => up_lo e_A275_53 hi) (by rw [e_A275_53, up_same]) ca377 (ca345.trans hw334.2) (e_A340_53.trans e_A275_53.symm) (e_A340_56.trans hw334.1) ((hlow.imp id (fun t => by rw [show rk 18 = 4 by decide]; exact t)).imp id Int.le_of_lt) (fun h => absurd h (by decide))⟩, by omega⟩, fun h => absurd h (by decide)⟩)⟩⟩ hP hS dX12_goesOn_271
  · have c283 : ¬ z280 = 0 := mt (i_eq0 (rb rz280 (by decide) (by decide))).mpr c283
    have hw282b := hw282.out.mp (by omega)
    refine lv_bipush (v := iI 17) hx hb dX12_goesOn_230 (by decide +kernel) ?_
    refine lv_goto (tgt := 251) hx hb dX12_goesOn_232 (by decide) ?_
    refine x_callv (As := [.int (iI 17)]) (rest := []) ⟨hx, hb, hml, hown, hts⟩ (mb_X12_holdsBack l dC dI cB cI cJ cZ cQ q _ 17 hI ⟨by decide, by decide⟩ (by omega)) (cwV 1 hts (goodV (wl_in_2 _ (List.mem_of_getElem? (i := 2) rfl)) (wl_in_2 _ (List.mem_of_getElem? (i := 3) rfl)) (wl_in_2 _ (List.mem_of_getElem? (i := 4) rfl)) (wl_in_0 _ (List.mem_of_getElem? (i := 8) rfl)) (wl_in_1 _ (List.mem_of_getElem? (i := 44) rfl))) rfl rfl rfl (by decide +kernel) ⟨Nat.le_of_ble_eq_true rfl, Nat.le_of_ble_eq_true rfl⟩) hK hDD hA0 hP hS 0 12 wm0 rfl rfl hl.1 (Nat.le_of_ble_eq_true rfl) dX12_goesOn_251 (fun A378 H locs hw379 hP hS => ?_)
    have ghw379 : q_X12_holdsBack 17 A275 A378 := hw379
    obtain ⟨_, hI, hf380, hw379⟩ := hw379
    have r_A378_0_56 : (0 : Int) ≤ (A378 0 56) ∧ (A378 0 56) ≤ 500 := hI 0 56
    refine lv_aload_n hx hb dX12_goesOn_254 rfl (lv_at hl 0 rfl) ?_
    refine va_get (D := (dC, dI)) (ci := 12) (v := .ref (q 36)) (C := RX12) (T := TX12) (N := 85) hx hb hts hiX12 hown hK hP 0 wm0 rfl 49 (by decide) (hts _ (List.mem_cons_of_mem _ (wl_in_1 _ (List.mem_of_getElem? (i := 47) rfl)))) (fun _ h9 => h9) rfl dX12_goesOn_255 ?_
    refine lv_iload_n hx hb dX12_goesOn_258 rfl (lv_at hl 1 rfl) ?_
    refine lv_iconst (v := iI 1) hx hb dX12_goesOn_259 (by decide +kernel) ?_
    refine x_iast hx hb hK hP hDD hS 36 1 wm36 rfl (by omega) (by decide) dX12_goesOn_260 ws36 (fun H locs hP hS => ?_)
    have hI := hI.st (j := 36) (i := ((A 0 53) - 1).toNat) (v := 1) (show (0 : Int) ≤ 1 ∧ 1 ≤ 2 from (by omega))
    refine lv_aload_n hx hb dX12_goesOn_261 rfl (lv_at hl 0 rfl) ?_
    obtain ⟨A381, hA381⟩ : ∃ A381 : St, A381 = (stA A378 36 ((A 0 53) - 1).toNat 1) := ⟨_, rfl⟩
    rw [← hA381] at hP hI
    have e_A378_4 : A378 0 4 = (A 0 4) := (hf380.2 4 rfl).trans e_A275_4
    have e_A381_4 : A381 0 4 = (A 0 4) := by rw [hA381]; exact e_A378_4
    have e_A378_5 : A378 0 5 = (A 0 5) := (hf380.2 5 rfl).trans e_A275_5
    have e_A381_5 : A381 0 5 = (A 0 5) := by rw [hA381]; exact e_A378_5
    have e_A378_8 : A378 0 8 = (A 0 8) := (hf380.2 8 rfl).trans e_A275_8
    have e_A381_8 : A381 0 8 = (A 0 8) := by rw [hA381]; exact e_A378_8
    refine x_callv (As := []) (rest := []) ⟨hx, hb, hml, hown, hts⟩ (mb_X12_ahead l dC dI cB cI cJ cZ cQ q _ hI) (cwV 0 hts (goodV (wl_in_0 _ (List.mem_of_getElem? (i := 40) rfl)) (wl_in_0 _ (List.mem_of_getElem? (i := 41) rfl)) (wl_in_0 _ (List.mem_of_getElem? (i := 42) rfl)) (wl_in_0 _ (List.mem_of_getElem? (i := 8) rfl)) (wl_in_0 _ (List.mem_of_getElem? (i := 20) rfl))) rfl rfl rfl (by decide +kernel) ⟨Nat.le_of_ble_eq_true rfl, Nat.le_of_ble_eq_true rfl⟩) hK hDD hA0 hP hS 0 12 wm0 rfl rfl hl.1 (Nat.le_of_ble_eq_true rfl) dX12_goesOn_262 (fun A382 H locs hw383 hP hS => ?_)
    have ghw383 : q_X12_ahead A381 A382 := hw383
    obtain ⟨_, hI, hf384, hw383⟩ := hw383
    have r_A382_0_3 : (0 : Int) ≤ (A382 0 3) ∧ (A382 0 3) ≤ 3 := hI 0 3
    have r_A382_0_4 : (0 : Int) ≤ (A382 0 4) ∧ (A382 0 4) ≤ 1600 := hI 0 4
    have r_A382_0_5 : (0 : Int) ≤ (A382 0 5) ∧ (A382 0 5) ≤ 1600 := hI 0 5
    have r_A382_0_8 : (0 : Int) ≤ (A382 0 8) ∧ (A382 0 8) ≤ 5 := hI 0 8
    have hw383x := hw383.1
    have hw383y := hw383.2.1
    replace hw383 := Hd.mk hw383
    refine lv_aload_n hx hb dX12_goesOn_265 rfl (lv_at hl 0 rfl) ?_
    refine lv_iconst (v := iI 0) hx hb dX12_goesOn_266 (by decide +kernel) ?_
    refine x_put (D := (dC, dI)) (ci := 12) (v := .int (iI 0)) (ty := .boolean) (C := RX12) (T := TX12) (N := 85) hx hb hts hiX12 tyX12 tyX12_ok nmX12 hown hK hP hDD hS 0 wm0 rfl 57 (by decide) (hts _ (List.mem_cons_of_mem _ (wl_in_2 _ (List.mem_of_getElem? (i := 9) rfl)))) (fun _ h9 => h9) rfl (by decide +kernel) (by decide +kernel) rfl (Nat.le_of_ble_eq_true rfl) dX12_goesOn_267 (wf57 (v := 0)) (fun H locs hP hS => ?_)
    have hI := hI.st (j := 0) (i := 57) (v := 0) (show (0 : Int) ≤ 0 ∧ 0 ≤ 1 from (by omega))
    refine lv_iconst (v := iI 1) hx hb dX12_goesOn_270 (by decide +kernel) ?_
    obtain ⟨A385, hA385⟩ : ∃ A385 : St, A385 = (stA A382 0 57 0) := ⟨_, rfl⟩
    rw [← hA385] at hP hI
    have e_A385_4 : A385 0 4 = (A382 0 4) := by rw [hA385]; exact rfl
    have e_A385_5 : A385 0 5 = (A382 0 5) := by rw [hA385]; exact rfl
    have e_A385_8 : A385 0 8 = (A382 0 8) := by rw [hA385]; exact rfl
    have e_A378_46 : A378 0 46 = (A275 0 46) := (hf380.2 46 rfl)
    have e_A381_46 : A381 0 46 = (A275 0 46) := by rw [hA381]; exact e_A378_46
    have e_A382_46 : A382 0 46 = (A275 0 46) := (hf384.2 46 rfl).trans e_A381_46
    have e_A385_46 : A385 0 46 = (A275 0 46) := by rw [hA385]; exact e_A382_46
    have e_A378_47 : A378 0 47 = (A 0 47) := (hf380.2 47 rfl).trans e_A275_47
    have e_A381_47 : A381 0 47 = (A 0 47) := by rw [hA381]; exact e_A378_47
    have e_A382_47 : A382 0 47 = (A 0 47) := (hf384.2 47 rfl).trans e_A381_47
    have e_A385_47 : A385 0 47 = (A 0 47) := by rw [hA385]; exact e_A382_47
    have e_A385_57 : A385 0 57 = 0 := by rw [hA385]; rfl
    have ca386 : A275 35 = A 35 := (hf277.1 35 (by decide) rfl)
    have ca387 : A385 1 = A382 1 := by rw [hA385]; exact rfl
    have e_A385_3 : A385 0 3 = (A382 0 3) := by rw [hA385]; exact rfl
    have e_A385_7 : A385 0 7 = (A382 0 7) := by rw [hA385]; exact rfl
    have hlt := RI.lt hp0 (by omega)
    have ca388 : A381 40 = A378 40 := by rw [hA381]; exact rfl
    have ca389 : A382 40 = A378 40 := (hf384.1 40 (by decide) rfl).trans ca388
    have ca390 : A385 40 = A378 40 := by rw [hA385]; exact ca389
    have e_A381_56 : A381 0 56 = (A378 0 56) := by rw [hA381]; exact rfl
    have e_A382_56 : A382 0 56 = (A378 0 56) := (hf384.2 56 rfl).trans e_A381_56
    have e_A385_56 : A385 0 56 = (A378 0 56) := by rw [hA385]; exact e_A382_56
    have ca391 : A378 29 = A275 29 := (hf380.1 29 (by decide) rfl)
    have ca392 : A381 29 = A275 29 := by rw [hA381]; exact ca391
    have ca393 : A382 29 = A275 29 := (hf384.1 29 (by decide) rfl).trans ca392
    have ca394 : A385 29 = A275 29 := by rw [hA385]; exact ca393
    have ca395 : A378 31 = A275 31 := (hf380.1 31 (by decide) rfl)
    have ca396 : A381 31 = A275 31 := by rw [hA381]; exact ca395
    have ca397 : A382 31 = A275 31 := (hf384.1 31 (by decide) rfl).trans ca396
    have ca398 : A385 31 = A275 31 := by rw [hA385]; exact ca397
    have ca399 : A378 33 = A275 33 := (hf380.1 33 (by decide) rfl)
    have ca400 : A381 33 = A275 33 := by rw [hA381]; exact ca399
    have ca401 : A382 33 = A275 33 := (hf384.1 33 (by decide) rfl).trans ca400
    have ca402 : A385 33 = A275 33 := by rw [hA385]; exact ca401
    have ca403 : A378 35 = A275 35 := (hf380.1 35 (by decide) rfl)
    have ca404 : A381 35 = A275 35 := by rw [hA381]; exact ca403
    have ca405 : A382 35 = A275 35 := (hf384.1 35 (by decide) rfl).trans ca404
    have ca406 : A385 35 = A275 35 := by rw [hA385]; exact ca405
    have ca407 : A378 37 = A275 37 := (hf380.1 37 (by decide) rfl)
    have ca408 : A381 37 = A275 37 := by rw [hA381]; exact ca407
    have ca409 : A382 37 = A275 37 := (hf384.1 37 (by decide) rfl).trans ca408
    have ca410 : A385 37 = A275 37 := by rw [hA385]; exact ca409
    have ca411 : A378 39 = A275 39 := (hf380.1 39 (by decide) rfl)
    have ca412 : A381 39 = A275 39 := by rw [hA381]; exact ca411
    have ca413 : A382 39 = A275 39 := (hf384.1 39 (by decide) rfl).trans ca412
    have ca414 : A385 39 = A275 39 := by rw [hA385]; exact ca413
    have e_A378_53 : A378 0 53 = (A 0 53) := (hf380.2 53 rfl).trans e_A275_53
    have e_A381_53 : A381 0 53 = (A 0 53) := by rw [hA381]; exact e_A378_53
    have e_A382_53 : A382 0 53 = (A 0 53) := (hf384.2 53 rfl).trans e_A381_53
    have e_A385_53 : A385 0 53 = (A 0 53) := by rw [hA385]; exact e_A382_53
    have e_A378_54 : A378 0 54 = (A 0 54) := (hf380.2 54 rfl).trans e_A275_54
    have e_A381_54 : A381 0 54 = (A 0 54) := by rw [hA381]; exact e_A378_54
    have e_A382_54 : A382 0 54 = (A 0 54) := (hf384.2 54 rfl).trans e_A381_54
    have e_A385_54 : A385 0 54 = (A 0 54) := by rw [hA385]; exact e_A382_54
    have ca415 : A378 36 = A275 36 := (hf380.1 36 (by decide) rfl)
    have e36 : A381 36 = up (A275 36) ((A 0 53) - 1).toNat 1 := by rw [hA381]; show up (A378 36) _ _ = _; rw [ca415]
    have ca416 : A382 36 = A381 36 := (hf384.1 36 (by decide) rfl)
    have ca417 : A385 36 = A381 36 := by rw [hA385]; exact ca416
    have ca418 : A275 36 = A 36 := (hf277.1 36 (by decide) rfl)
    have h36 : A275 36 (A275 0 53 - 1).toNat = 0 := by rw [ca418, e_A275_53]; omega
    have hlow := SP.low (k := 0) hc279 h36 hIj (RI.base hj1) hj2.out
    have ca419 : A378 39 = A275 39 := (hf380.1 39 (by decide) rfl)
    have ca420 : A381 39 = A275 39 := by rw [hA381]; exact ca419
    have ca421 : A382 39 = A275 39 := (hf384.1 39 (by decide) rfl).trans ca420
    have ca422 : A385 39 = A275 39 := by rw [hA385]; exact ca421
    exact RET 1 _ _ _ _ _ ⟨hk3 _ _ (u_d_X12_goesOn_3 ⟨A275, ghw276, ⟨z280, ghw282, (Or.inr ⟨c283, ⟨A378, ghw379, ⟨A381, hA381, ⟨A382, ghw383, ⟨A385, hA385, ⟨rfl, rfl⟩⟩⟩⟩⟩⟩)⟩⟩), hI, fr_def hA385 (fr.sf (fr.trans (fr_def hA381 (fr.st (fr.trans (fr.trans (fr.rf) hf277 rfl rfl) hf380 rfl rfl) (by decide) rfl)) hf384 rfl rfl) rfl), (CI.fr (CI.fr (CI.fr (CI.fr hc278 hf380 rfl rfl) (fr_def hA381 (fr.st (fr.rf (M := [36]) (N := [])) (by decide) rfl)) rfl rfl) hf384 rfl rfl) (fr_def hA385 (fr.sf (fr.rf (M := []) (N := [57])) rfl)) rfl rfl), ⟨by decide, Hd.mk (fun h0 => ⟨fun _ => ⟨by rw [e_A385_57]; exact RI.op (x := 17) (r37 := A275 37) hj1 hIj (by rw [e_A275_3]; rw [hs3]; decide) (by decide) (hlow.imp id (fun t => by rw [show rk 17 = 4 by decide]; exact t)) (fun _ _ => rfl) (fun h => absurd h (by rw [RI.nn hj1 rfl]; decide)) ⟨ca394, ca398, ca402, ca406, ca410, ca414, (ca390.trans hw379.2), e_A385_46, (e_A385_47.trans e_A275_47.symm), (e_A385_53.trans e_A275_53.symm), (e_A385_54.trans e_A275_54.symm), (e_A385_56.trans hw379.1)⟩ (by rw [← (e_A381_5.trans e_A275_5.symm), e_A385_4]; exact hw383x) (by rw [e_A385_4, e_A385_5]; exact hw383y) (LX.of ca387 e_A385_3 e_A385_4 e_A385_5 e_A385_7 hw383.out.2.2.1), ⟨(PR.fr (PR.fr (PR.fr (PR.fr (PR.fr hp2 hf277 rfl rfl) hf380 rfl rfl) (fr_def hA381 (fr.st (fr.rf (M := [36]) (N := [])) (by decide) rfl)) rfl rfl) hf384 rfl rfl) (fr_def hA385 (fr.sf (fr.rf (M := []) (N := [57])) rfl)) rfl rfl), SP.push (x := 17) (ph := 1) (r36 := up (A275 36) ((A 0 53) - 1).toNat 1) hc279 hIj hj1.2.1 (RI.deep hj1 hIj).1 (ca417.trans e36) (fun i hi => up_lo e_A275_53 hi) (by rw [e_A275_53, up_same]) ca422 (ca390.trans hw379.2) (e_A385_53.trans e_A275_53.symm) (e_A385_56.trans hw379.1) ((hlow.imp id (fun t => by rw [show rk 17 = 4 by decide]; exact t)).imp id Int.le_of_lt) (fun h => absurd h (by decide))⟩, by omega⟩, fun h => absurd h (by decide)⟩)⟩⟩ hP hS dX12_goesOn_271
