set_option maxHeartbeats 4000000 in
set_option maxRecDepth 100000 in
theorem mb_X12_goesOn_c215 (l : Launch) (dC : Nat → ClassId) (dI : Nat → Nat → Nat) (cB cI cJ cZ cQ : ClassId) (q : Nat → Nat) (A : St) (hI : IM A) (hp0 : RI 1 A) (hp1 : A 0 8 = 0) (hp2 : PR A) (hp3 : A 0 57 = 1) (hp4 : SP A) (hcCI : CI A) (p : Program) (e : Env) (s : State) (m : MethodId) (below : List Frame) (meth : Method) (c : Code) (Q : State → Prop) (AS : Nat → Prop) (hx : p.tables.exec = Jvm.exec) (hb : c.code = cX12_goesOn) (hml : c.maxLocals = 5) (hown : s.vm.findClass RX12 = some m.cls) (hts : ∀ w ∈ ws_mb_X12_goesOn, w.before [.ref (q 0)].toArray s = true) (hK : va_K (dC, dI) vwCl (tyA cB cI cJ cZ cQ) s) (hDD : ∀ A', va_D AS (WM cI cJ cZ q A')) (hA0 : ∀ b : Nat, s.heap.size ≤ b → AS b) (RET : ∀ (z : Int) (u : St) (H : Heap) (locs : List Loc) (pc : Nat) (ls : Array Slot), ((fun z u => r_X12_goesOn A z u ∧ IM u ∧ fr [33, 34, 35, 36, 37, 40] [3, 4, 5, 6, 7, 8, 9, 46, 53, 54, 56, 57] A u ∧ CI u ∧ ((0 ≤ z ∧ z ≤ 1) ∧ (Hd (u 0 8 = 0 → (z = 1 → RI (u 0 57) u ∧ (PR u ∧ SP u) ∧ A 0 4 + 1 ≤ u 0 4) ∧ (z = 0 → DP (u 33) (sA u) (1600 * u 0 47 + u 0 46) 1 ∧ CB u ∧ A 0 4 ≤ u 0 4))))) z u) → va_P (dC, dI) vwCl (WM cI cJ cZ q u) H → va_S AS s.heap H locs → decode cX12_goesOn pc = .ok (.ireturn, 1) → W p l e (headSpec ws_mb_X12_goesOn ({ frames := 2, cells := 0, slots := 0, locals := 47 } : Room)).room s m [.ref (q 0)].toArray below meth c H locs 0 0 Q (F0 m pc ls [.int (iI z)])) (H : Heap) (locs : List Loc) (ls : Array Slot) (z1 z2 : Int) (rz1 : (0 : Int) ≤ z1 ∧ z1 ≤ 5) (rz2 : (0 : Int) ≤ z2 ∧ z2 ≤ 1) (hz1 : z1 = A 35 ((A 0 53) - 1).toNat) (hs3 : A 0 3 = 3) (hph0 : A 36 ((A 0 53) - 1).toNat = 0) (hk3 : ∀ (z : Int) (u : St), (d_X12_goesOn_3 A z u z1 z2) → r_X12_goesOn A z u) (hP : va_P (dC, dI) vwCl (WM cI cJ cZ q A) H) (hS : va_S AS s.heap H locs) (hl : lv_has ls 5 [(0, .ref (q 0)), (1, .int (iI ((A 0 53) - 1))), (2, .int (iI z1)), (3, .int (iI z2))]) : W p l e (headSpec ws_mb_X12_goesOn ({ frames := 2, cells := 0, slots := 0, locals := 47 } : Room)).room s m [.ref (q 0)].toArray below meth c H locs 0 0 Q (F0 m 215 ls []) := by
  have hiX12 : ∀ w ∈ u_ws RX12 TX12 85, w ∈ ws_mb_X12_goesOn := fun w h => List.mem_cons_of_mem _ (wx_lay w h)
  have hI0 := hI
  have hdp := RI.deep hp0 hI0
  have hrm := RI.room hp0 hI0
  have r_A_0_3 : (0 : Int) ≤ (A 0 3) ∧ (A 0 3) ≤ 3 := hI 0 3
  have r_A_0_4 : (0 : Int) ≤ (A 0 4) ∧ (A 0 4) ≤ 1600 := hI 0 4
  have r_A_0_5 : (0 : Int) ≤ (A 0 5) ∧ (A 0 5) ≤ 1600 := hI 0 5
  have r_A_0_7 : (-9223372036854775808 : Int) ≤ (A 0 7) ∧ (A 0 7) ≤ 9223372036854775807 := hI 0 7
  have r_A_0_8 : (0 : Int) ≤ (A 0 8) ∧ (A 0 8) ≤ 5 := hI 0 8
  have r_A_0_46 : (0 : Int) ≤ (A 0 46) ∧ (A 0 46) ≤ 1600 := hI 0 46
  have r_A_0_47 : (0 : Int) ≤ (A 0 47) ∧ (A 0 47) ≤ 1 := hI 0 47
  have r_A_0_53 : (0 : Int) ≤ (A 0 53) ∧ (A 0 53) ≤ 20 := hI 0 53
  have r_A_0_54 : (0 : Int) ≤ (A 0 54) ∧ (A 0 54) ≤ 8 := hI 0 54
  have r_A_0_56 : (0 : Int) ≤ (A 0 56) ∧ (A 0 56) ≤ 500 := hI 0 56
  have hop := hp0.1
  refine lv_aload_n hx hb dX12_goesOn_215 rfl (lv_at hl 0 rfl) ?_
  refine lv_iconst (v := iI 5) hx hb dX12_goesOn_216 (by decide +kernel) ?_
  refine x_callv (As := [.int (iI 5)]) (rest := []) ⟨hx, hb, hml, hown, hts⟩ (mb_X12_joins l dC dI cB cI cJ cZ cQ q _ 5 hI ⟨by decide, by decide⟩ (by exact hp0) hcCI hp4) (cwV 1 hts (goodV (wl_in_2 _ (List.mem_of_getElem? (i := 10) rfl)) (wl_in_2 _ (List.mem_of_getElem? (i := 11) rfl)) (wl_in_2 _ (List.mem_of_getElem? (i := 12) rfl)) (wl_in_0 _ (List.mem_of_getElem? (i := 8) rfl)) (wl_in_1 _ (List.mem_of_getElem? (i := 34) rfl))) rfl rfl rfl (by decide +kernel) ⟨Nat.le_of_ble_eq_true rfl, Nat.le_of_ble_eq_true rfl⟩) hK hDD hA0 hP hS 0 12 wm0 rfl rfl hl.1 (Nat.le_of_ble_eq_true rfl) dX12_goesOn_217 (fun A275 H locs hw276 hP hS => ?_)
  have ghw276 : q_X12_joins 5 A A275 := hw276
  obtain ⟨_, hI, hf277, hw276⟩ := hw276
  obtain ⟨hc278, hw276⟩ := hw276
  obtain ⟨hc279, hw276⟩ := hw276
  have e_A275_53 : A275 0 53 = (A 0 53) := (hf277.2 53 rfl)
  have r_A275_0_56 : (0 : Int) ≤ (A275 0 56) ∧ (A275 0 56) ≤ 500 := hI 0 56
  have hj1 := hw276.1
  have hj2 := Hd.mk hw276.2
  clear hw276
  have hIj := hI
  have hrj := RI.room hj1 hIj
  have e_A275_3 : A275 0 3 = (A 0 3) := (hf277.2 3 rfl)
  have e_A275_4 : A275 0 4 = (A 0 4) := (hf277.2 4 rfl)
  have e_A275_5 : A275 0 5 = (A 0 5) := (hf277.2 5 rfl)
  have e_A275_7 : A275 0 7 = (A 0 7) := (hf277.2 7 rfl)
  have e_A275_8 : A275 0 8 = (A 0 8) := (hf277.2 8 rfl)
  have e_A275_47 : A275 0 47 = (A 0 47) := (hf277.2 47 rfl)
  have e_A275_54 : A275 0 54 = (A 0 54) := (hf277.2 54 rfl)
  have r_A275_0_46 : (0 : Int) ≤ (A275 0 46) ∧ (A275 0 46) ≤ 1600 := hI 0 46
  refine lv_aload_n hx hb dX12_goesOn_220 rfl (lv_at hl 0 rfl) ?_
  refine lv_aload_n hx hb dX12_goesOn_221 rfl (lv_at hl 0 rfl) ?_
  refine lv_bipush (v := iI 60) hx hb dX12_goesOn_222 (by decide +kernel) ?_
  have e_A275_6 : A275 0 6 = (A 0 6) := (hf277.2 6 rfl)
  have r_A_0_6 : (-2147483648 : Int) ≤ (A 0 6) ∧ (A 0 6) ≤ 2147483647 := by rw [← e_A275_6]; exact hI 0 6
  refine x_calli (As := [.int (iI 60)]) (rest := [.ref (q 0)]) ⟨hx, hb, hml, hown, hts⟩ (mb_X12_isSign l dC dI cB cI cJ cZ cQ q _ 60 hI ⟨by decide, by decide⟩) (cwV 1 hts (goodV (wl_in_0 _ (List.mem_of_getElem? (i := 37) rfl)) (wl_in_0 _ (List.mem_of_getElem? (i := 38) rfl)) (wl_in_0 _ (List.mem_of_getElem? (i := 39) rfl)) (wl_in_0 _ (List.mem_of_getElem? (i := 8) rfl)) (wl_in_0 _ (List.mem_of_getElem? (i := 34) rfl))) rfl rfl rfl (by decide +kernel) ⟨Nat.le_of_ble_eq_true rfl, Nat.le_of_ble_eq_true rfl⟩) hK hDD hA0 hP hS 0 12 wm0 rfl rfl hl.1 (Nat.le_of_ble_eq_true rfl) dX12_goesOn_224 (fun z280 A281 H locs hw282 hP hS => ?_)
  obtain ⟨rfl, hw282⟩ := hw282
  have ghw282 : q_X12_isSign 60 A275 z280 := hw282
  have hw282 := hw282.2
  have rz280 : 0 ≤ z280 ∧ z280 ≤ 1 := hw282.1
  replace hw282 := Hd.mk hw282.2
  refine lv_if_eq (tgt := 235) hx hb dX12_goesOn_227 (by decide) (fun c283 => ?_) (fun c283 => ?_)
  · have c283 : z280 = 0 := (i_eq0 (rb rz280 (by decide) (by decide))).mp c283
    refine lv_aload_n hx hb dX12_goesOn_235 rfl (lv_at hl 0 rfl) ?_
    refine lv_bipush (v := iI 62) hx hb dX12_goesOn_236 (by decide +kernel) ?_
    refine x_calli (As := [.int (iI 62)]) (rest := [.ref (q 0)]) ⟨hx, hb, hml, hown, hts⟩ (mb_X12_isSign l dC dI cB cI cJ cZ cQ q _ 62 hI ⟨by decide, by decide⟩) (cwV 1 hts (goodV (wl_in_0 _ (List.mem_of_getElem? (i := 37) rfl)) (wl_in_0 _ (List.mem_of_getElem? (i := 38) rfl)) (wl_in_0 _ (List.mem_of_getElem? (i := 39) rfl)) (wl_in_0 _ (List.mem_of_getElem? (i := 8) rfl)) (wl_in_0 _ (List.mem_of_getElem? (i := 34) rfl))) rfl rfl rfl (by decide +kernel) ⟨Nat.le_of_ble_eq_true rfl, Nat.le_of_ble_eq_true rfl⟩) hK hDD hA0 hP hS 0 12 wm0 rfl rfl hl.1 (Nat.le_of_ble_eq_true rfl) dX12_goesOn_238 (fun z284 A285 H locs hw286 hP hS => ?_)
    obtain ⟨rfl, hw286⟩ := hw286
    have ghw286 : q_X12_isSign 62 A275 z284 := hw286
    have hw286 := hw286.2
    have rz284 : 0 ≤ z284 ∧ z284 ≤ 1 := hw286.1
    replace hw286 := Hd.mk hw286.2
    refine lv_if_eq (tgt := 249) hx hb dX12_goesOn_241 (by decide) (fun c287 => ?_) (fun c287 => ?_)
    · have c287 : z284 = 0 := (i_eq0 (rb rz284 (by decide) (by decide))).mp c287
      refine lv_bipush (v := iI 19) hx hb dX12_goesOn_249 (by decide +kernel) ?_
      refine x_callv (As := [.int (iI 19)]) (rest := []) ⟨hx, hb, hml, hown, hts⟩ (mb_X12_holdsBack l dC dI cB cI cJ cZ cQ q _ 19 hI ⟨by decide, by decide⟩ (by omega)) (cwV 1 hts (goodV (wl_in_2 _ (List.mem_of_getElem? (i := 2) rfl)) (wl_in_2 _ (List.mem_of_getElem? (i := 3) rfl)) (wl_in_2 _ (List.mem_of_getElem? (i := 4) rfl)) (wl_in_0 _ (List.mem_of_getElem? (i := 8) rfl)) (wl_in_1 _ (List.mem_of_getElem? (i := 44) rfl))) rfl rfl rfl (by decide +kernel) ⟨Nat.le_of_ble_eq_true rfl, Nat.le_of_ble_eq_true rfl⟩) hK hDD hA0 hP hS 0 12 wm0 rfl rfl hl.1 (Nat.le_of_ble_eq_true rfl) dX12_goesOn_251 (fun A288 H locs hw289 hP hS => ?_)
      have ghw289 : q_X12_holdsBack 19 A275 A288 := hw289
      obtain ⟨_, hI, hf290, hw289⟩ := hw289
      have r_A288_0_56 : (0 : Int) ≤ (A288 0 56) ∧ (A288 0 56) ≤ 500 := hI 0 56
      refine lv_aload_n hx hb dX12_goesOn_254 rfl (lv_at hl 0 rfl) ?_
      refine va_get (D := (dC, dI)) (ci := 12) (v := .ref (q 36)) (C := RX12) (T := TX12) (N := 85) hx hb hts hiX12 hown hK hP 0 wm0 rfl 49 (by decide) (hts _ (List.mem_cons_of_mem _ (wl_in_1 _ (List.mem_of_getElem? (i := 47) rfl)))) (fun _ h9 => h9) rfl dX12_goesOn_255 ?_
      refine lv_iload_n hx hb dX12_goesOn_258 rfl (lv_at hl 1 rfl) ?_
      refine lv_iconst (v := iI 1) hx hb dX12_goesOn_259 (by decide +kernel) ?_
      refine x_iast hx hb hK hP hDD hS 36 1 wm36 rfl (by omega) (by decide) dX12_goesOn_260 ws36 (fun H locs hP hS => ?_)
      have hI := hI.st (j := 36) (i := ((A 0 53) - 1).toNat) (v := 1) (show (0 : Int) ≤ 1 ∧ 1 ≤ 2 from (by omega))
      refine lv_aload_n hx hb dX12_goesOn_261 rfl (lv_at hl 0 rfl) ?_
      obtain ⟨A291, hA291⟩ : ∃ A291 : St, A291 = (stA A288 36 ((A 0 53) - 1).toNat 1) := ⟨_, rfl⟩
      rw [← hA291] at hP hI
      have e_A288_4 : A288 0 4 = (A 0 4) := (hf290.2 4 rfl).trans e_A275_4
      have e_A291_4 : A291 0 4 = (A 0 4) := by rw [hA291]; exact e_A288_4
      have e_A288_5 : A288 0 5 = (A 0 5) := (hf290.2 5 rfl).trans e_A275_5
      have e_A291_5 : A291 0 5 = (A 0 5) := by rw [hA291]; exact e_A288_5
      have e_A288_8 : A288 0 8 = (A 0 8) := (hf290.2 8 rfl).trans e_A275_8
      have e_A291_8 : A291 0 8 = (A 0 8) := by rw [hA291]; exact e_A288_8
      refine x_callv (As := []) (rest := []) ⟨hx, hb, hml, hown, hts⟩ (mb_X12_ahead l dC dI cB cI cJ cZ cQ q _ hI) (cwV 0 hts (goodV (wl_in_0 _ (List.mem_of_getElem? (i := 40) rfl)) (wl_in_0 _ (List.mem_of_getElem? (i := 41) rfl)) (wl_in_0 _ (List.mem_of_getElem? (i := 42) rfl)) (wl_in_0 _ (List.mem_of_getElem? (i := 8) rfl)) (wl_in_0 _ (List.mem_of_getElem? (i := 20) rfl))) rfl rfl rfl (by decide +kernel) ⟨Nat.le_of_ble_eq_true rfl, Nat.le_of_ble_eq_true rfl⟩) hK hDD hA0 hP hS 0 12 wm0 rfl rfl hl.1 (Nat.le_of_ble_eq_true rfl) dX12_goesOn_262 (fun A292 H locs hw293 hP hS => ?_)
      have ghw293 : q_X12_ahead A291 A292 := hw293
      obtain ⟨_, hI, hf294, hw293⟩ := hw293
      have r_A292_0_3 : (0 : Int) ≤ (A292 0 3) ∧ (A292 0 3) ≤ 3 := hI 0 3
      have r_A292_0_4 : (0 : Int) ≤ (A292 0 4) ∧ (A292 0 4) ≤ 1600 := hI 0 4
      have r_A292_0_5 : (0 : Int) ≤ (A292 0 5) ∧ (A292 0 5) ≤ 1600 := hI 0 5
      have r_A292_0_8 : (0 : Int) ≤ (A292 0 8) ∧ (A292 0 8) ≤ 5 := hI 0 8
      have hw293x := hw293.1
      have hw293y := hw293.2.1
      replace hw293 := Hd.mk hw293
      refine lv_aload_n hx hb dX12_goesOn_265 rfl (lv_at hl 0 rfl) ?_
      refine lv_iconst (v := iI 0) hx hb dX12_goesOn_266 (by decide +kernel) ?_
      refine x_put (D := (dC, dI)) (ci := 12) (v := .int (iI 0)) (ty := .boolean) (C := RX12) (T := TX12) (N := 85) hx hb hts hiX12 tyX12 tyX12_ok nmX12 hown hK hP hDD hS 0 wm0 rfl 57 (by decide) (hts _ (List.mem_cons_of_mem _ (wl_in_2 _ (List.mem_of_getElem? (i := 9) rfl)))) (fun _ h9 => h9) rfl (by decide +kernel) (by decide +kernel) rfl (Nat.le_of_ble_eq_true rfl) dX12_goesOn_267 (wf57 (v := 0)) (fun H locs hP hS => ?_)
      have hI := hI.st (j := 0) (i := 57) (v := 0) (show (0 : Int) ≤ 0 ∧ 0 ≤ 1 from (by omega))
      refine lv_iconst (v := iI 1) hx hb dX12_goesOn_270 (by decide +kernel) ?_
      obtain ⟨A295, hA295⟩ : ∃ A295 : St, A295 = (stA A292 0 57 0) := ⟨_, rfl⟩
      rw [← hA295] at hP hI
      have e_A295_4 : A295 0 4 = (A292 0 4) := by rw [hA295]; exact rfl
      have e_A295_5 : A295 0 5 = (A292 0 5) := by rw [hA295]; exact rfl
      have e_A295_8 : A295 0 8 = (A292 0 8) := by rw [hA295]; exact rfl
      have e_A288_46 : A288 0 46 = (A275 0 46) := (hf290.2 46 rfl)
      have e_A291_46 : A291 0 46 = (A275 0 46) := by rw [hA291]; exact e_A288_46
      have e_A292_46 : A292 0 46 = (A275 0 46) := (hf294.2 46 rfl).trans e_A291_46
      have e_A295_46 : A295 0 46 = (A275 0 46) := by rw [hA295]; exact e_A292_46
      have e_A288_47 : A288 0 47 = (A 0 47) := (hf290.2 47 rfl).trans e_A275_47
      have e_A291_47 : A291 0 47 = (A 0 47) := by rw [hA291]; exact e_A288_47
      have e_A292_47 : A292 0 47 = (A 0 47) := (hf294.2 47 rfl).trans e_A291_47
      have e_A295_47 : A295 0 47 = (A 0 47) := by rw [hA295]; exact e_A292_47
      have e_A295_57 : A295 0 57 = 0 := by rw [hA295]; rfl
      have ca296 : A275 35 = A 35 := (hf277.1 35 (by decide) rfl)
      have ca297 : A295 1 = A292 1 := by rw [hA295]; exact rfl
      have e_A295_3 : A295 0 3 = (A292 0 3) := by rw [hA295]; exact rfl
      have e_A295_7 : A295 0 7 = (A292 0 7) := by rw [hA295]; exact rfl
      have hlt := RI.lt hp0 (by omega)
      have ca298 : A291 40 = A288 40 := by rw [hA291]; exact rfl
      have ca299 : A292 40 = A288 40 := (hf294.1 40 (by decide) rfl).trans ca298
      have ca300 : A295 40 = A288 40 := by rw [hA295]; exact ca299
      have e_A291_56 : A291 0 56 = (A288 0 56) := by rw [hA291]; exact rfl
      have e_A292_56 : A292 0 56 = (A288 0 56) := (hf294.2 56 rfl).trans e_A291_56
      have e_A295_56 : A295 0 56 = (A288 0 56) := by rw [hA295]; exact e_A292_56
      have ca301 : A288 29 = A275 29 := (hf290.1 29 (by decide) rfl)
      have ca302 : A291 29 = A275 29 := by rw [hA291]; exact ca301
      have ca303 : A292 29 = A275 29 := (hf294.1 29 (by decide) rfl).trans ca302
      have ca304 : A295 29 = A275 29 := by rw [hA295]; exact ca303
      have ca305 : A288 31 = A275 31 := (hf290.1 31 (by decide) rfl)
      have ca306 : A291 31 = A275 31 := by rw [hA291]; exact ca305
      have ca307 : A292 31 = A275 31 := (hf294.1 31 (by decide) rfl).trans ca306
      have ca308 : A295 31 = A275 31 := by rw [hA295]; exact ca307
      have ca309 : A288 33 = A275 33 := (hf290.1 33 (by decide) rfl)
      have ca310 : A291 33 = A275 33 := by rw [hA291]; exact ca309
      have ca311 : A292 33 = A275 33 := (hf294.1 33 (by decide) rfl).trans ca310
      have ca312 : A295 33 = A275 33 := by rw [hA295]; exact ca311
      have ca313 : A288 35 = A275 35 := (hf290.1 35 (by decide) rfl)
      have ca314 : A291 35 = A275 35 := by rw [hA291]; exact ca313
      have ca315 : A292 35 = A275 35 := (hf294.1 35 (by decide) rfl).trans ca314
      have ca316 : A295 35 = A275 35 := by rw [hA295]; exact ca315
      have ca317 : A288 37 = A275 37 := (hf290.1 37 (by decide) rfl)
      have ca318 : A291 37 = A275 37 := by rw [hA291]; exact ca317
      have ca319 : A292 37 = A275 37 := (hf294.1 37 (by decide) rfl).trans ca318
      have ca320 : A295 37 = A275 37 := by rw [hA295]; exact ca319
      have ca321 : A288 39 = A275 39 := (hf290.1 39 (by decide) rfl)
      have ca322 : A291 39 = A275 39 := by rw [hA291]; exact ca321
      have ca323 : A292 39 = A275 39 := (hf294.1 39 (by decide) rfl).trans ca322
      have ca324 : A295 39 = A275 39 := by rw [hA295]; exact ca323
      have e_A288_53 : A288 0 53 = (A 0 53) := (hf290.2 53 rfl).trans e_A275_53
      have e_A291_53 : A291 0 53 = (A 0 53) := by rw [hA291]; exact e_A288_53
      have e_A292_53 : A292 0 53 = (A 0 53) := (hf294.2 53 rfl).trans e_A291_53
      have e_A295_53 : A295 0 53 = (A 0 53) := by rw [hA295]; exact e_A292_53
      have e_A288_54 : A288 0 54 = (A 0 54) := (hf290.2 54 rfl).trans e_A275_54
      have e_A291_54 : A291 0 54 = (A 0 54) := by rw [hA291]; exact e_A288_54
      have e_A292_54 : A292 0 54 = (A 0 54) := (hf294.2 54 rfl).trans e_A291_54
      have e_A295_54 : A295 0 54 = (A 0 54) := by rw [hA295]; exact e_A292_54
      have ca325 : A288 36 = A275 36 := (hf290.1 36 (by decide) rfl)
      have e36 : A291 36 = up (A275 36) ((A 0 53) - 1).toNat 1 := by rw [hA291]; show up (A288 36) _ _ = _; rw [ca325]
      have ca326 : A292 36 = A291 36 := (hf294.1 36 (by decide) rfl)
      have ca327 : A295 36 = A291 36 := by rw [hA295]; exact ca326
      have ca328 : A275 36 = A 36 := (hf277.1 36 (by decide) rfl)
      have h36 : A275 36 (A275 0 53 - 1).toNat = 0 := by rw [ca328, e_A275_53]; omega
      have hlow := SP.low (k := 0) hc279 h36 hIj (RI.base hj1) hj2.out
      have ca329 : A288 39 = A275 39 := (hf290.1 39 (by decide) rfl)
      have ca330 : A291 39 = A275 39 := by rw [hA291]; exact ca329
      have ca331 : A292 39 = A275 39 := (hf294.1 39 (by decide) rfl).trans ca330
      have ca332 : A295 39 = A275 39 := by rw [hA295]; exact ca331
      exact RET 1 _ _ _ _ _ ⟨hk3 _ _ (u_d_X12_goesOn_3 ⟨A275, ghw276, ⟨z280, ghw282, (Or.inl ⟨c283, ⟨z284, ghw286, (Or.inl ⟨c287, ⟨A288, ghw289, ⟨A291, hA291, ⟨A292, ghw293, ⟨A295, hA295, ⟨rfl, rfl⟩⟩⟩⟩⟩⟩)⟩⟩)⟩⟩), hI, fr_def hA295 (fr.sf (fr.trans (fr_def hA291 (fr.st (fr.trans (fr.trans (fr.rf) hf277 rfl rfl) hf290 rfl rfl) (by decide) rfl)) hf294 rfl rfl) rfl), (CI.fr (CI.fr (CI.fr (CI.fr hc278 hf290 rfl rfl) (fr_def hA291 (fr.st (fr.rf (M := [36]) (N := [])) (by decide) rfl)) rfl rfl) hf294 rfl rfl) (fr_def hA295 (fr.sf (fr.rf (M := []) (N := [57])) rfl)) rfl rfl), ⟨by decide, Hd.mk (fun h0 => ⟨fun _ => ⟨by rw [e_A295_57]; exact RI.op (x := 19) (r37 := A275 37) hj1 hIj (by rw [e_A275_3]; rw [hs3]; decide) (by decide) (hlow.imp id (fun t => by rw [show rk 19 = 4 by decide]; exact t)) (fun _ _ => rfl) (fun h => absurd h (by rw [RI.nn hj1 rfl]; decide)) ⟨ca304, ca308, ca312, ca316, ca320, ca324, (ca300.trans hw289.2), e_A295_46, (e_A295_47.trans e_A275_47.symm), (e_A295_53.trans e_A275_53.symm), (e_A295_54.trans e_A275_54.symm), (e_A295_56.trans hw289.1)⟩ (by rw [← (e_A291_5.trans e_A275_5.symm), e_A295_4]; exact hw293x) (by rw [e_A295_4, e_A295_5]; exact hw293y) (LX.of ca297 e_A295_3 e_A295_4 e_A295_5 e_A295_7 hw293.out.2.2.1), ⟨(PR.fr (PR.fr (PR.fr (PR.fr (PR.fr hp2 hf277 rfl rfl) hf290 rfl rfl) (fr_def hA291 (fr.st (fr.rf (M := [36]) (N := [])) (by decide) rfl)) rfl rfl) hf294 rfl rfl) (fr_def hA295 (fr.sf (fr.rf (M := []) (N := [57])) rfl)) rfl rfl), SP.push (x := 19) (ph := 1) (r36 := up (A275 36) ((A 0 53) - 1).toNat 1) hc279 hIj hj1.2.1 (RI.deep hj1 hIj).1 (ca327.trans e36) (fun i hi => up_lo e_A275_53 hi) (by rw [e_A275_53, up_same]) ca332 (ca300.trans hw289.2) (e_A295_53.trans e_A275_53.symm) (e_A295_56.trans hw289.1) ((hlow.imp id (fun t => by rw [show rk 19 = 4 by decide]; exact t)).imp id Int.le_of_lt) (fun h => absurd h (by decide))⟩, by omega⟩, fun h => absurd h (by decide)⟩)⟩⟩ hP hS dX12_goesOn_271
    · have c287 : ¬ z284 = 0 := mt (i_eq0 (rb rz284 (by decide) (by decide))).mpr c287
      have hw286b := hw286.out.mp (by omega)
      refine lv_bipush (v := iI 18) hx hb dX12_goesOn_244 (by decide +kernel) ?_
      refine lv_goto (tgt := 251) hx hb dX12_goesOn_246 (by decide) ?_
      refine x_callv (As := [.int (iI 18)]) (rest := []) ⟨hx, hb, hml, hown, hts⟩ (mb_X12_holdsBack l dC dI cB cI cJ cZ cQ q _ 18 hI ⟨by decide, by decide⟩ (by omega)) (cwV 1 hts (goodV (wl_in_2 _ (List.mem_of_getElem? (i := 2) rfl)) (wl_in_2 _ (List.mem_of_getElem? (i := 3) rfl)) (wl_in_2 _ (List.mem_of_getElem? (i := 4) rfl)) (wl_in_0 _ (List.mem_of_getElem? (i := 8) rfl)) (wl_in_1 _ (List.mem_of_getElem? (i := 44) rfl))) rfl rfl rfl (by decide +kernel) ⟨Nat.le_of_ble_eq_true rfl, Nat.le_of_ble_eq_true rfl⟩) hK hDD hA0 hP hS 0 12 wm0 rfl rfl hl.1 (Nat.le_of_ble_eq_true rfl) dX12_goesOn_251 (fun A333 H locs hw334 hP hS => ?_)
      have ghw334 : q_X12_holdsBack 18 A275 A333 := hw334
      obtain ⟨_, hI, hf335, hw334⟩ := hw334
      have r_A333_0_56 : (0 : Int) ≤ (A333 0 56) ∧ (A333 0 56) ≤ 500 := hI 0 56
      refine lv_aload_n hx hb dX12_goesOn_254 rfl (lv_at hl 0 rfl) ?_
      refine va_get (D := (dC, dI)) (ci := 12) (v := .ref (q 36)) (C := RX12) (T := TX12) (N := 85) hx hb hts hiX12 hown hK hP 0 wm0 rfl 49 (by decide) (hts _ (List.mem_cons_of_mem _ (wl_in_1 _ (List.mem_of_getElem? (i := 47) rfl)))) (fun _ h9 => h9) rfl dX12_goesOn_255 ?_
      refine lv_iload_n hx hb dX12_goesOn_258 rfl (lv_at hl 1 rfl) ?_
      refine lv_iconst (v := iI 1) hx hb dX12_goesOn_259 (by decide +kernel) ?_
      refine x_iast hx hb hK hP hDD hS 36 1 wm36 rfl (by omega) (by decide) dX12_goesOn_260 ws36 (fun H locs hP hS => ?_)
      have hI := hI.st (j := 36) (i := ((A 0 53) - 1).toNat) (v := 1) (show (0 : Int) ≤ 1 ∧ 1 ≤ 2 from (by omega))
      refine lv_aload_n hx hb dX12_goesOn_261 rfl (lv_at hl 0 rfl) ?_
      obtain ⟨A336, hA336⟩ : ∃ A336 : St, A336 = (stA A333 36 ((A 0 53) - 1).toNat 1) := ⟨_, rfl⟩
      rw [← hA336] at hP hI
      have e_A333_4 : A333 0 4 = (A 0 4) := (hf335.2 4 rfl).trans e_A275_4
      have e_A336_4 : A336 0 4 = (A 0 4) := by rw [hA336]; exact e_A333_4
      have e_A333_5 : A333 0 5 = (A 0 5) := (hf335.2 5 rfl).trans e_A275_5
      have e_A336_5 : A336 0 5 = (A 0 5) := by rw [hA336]; exact e_A333_5
      have e_A333_8 : A333 0 8 = (A 0 8) := (hf335.2 8 rfl).trans e_A275_8
      have e_A336_8 : A336 0 8 = (A 0 8) := by rw [hA336]; exact e_A333_8
      refine x_callv (As := []) (rest := []) ⟨hx, hb, hml, hown, hts⟩ (mb_X12_ahead l dC dI cB cI cJ cZ cQ q _ hI) (cwV 0 hts (goodV (wl_in_0 _ (List.mem_of_getElem? (i := 40) rfl)) (wl_in_0 _ (List.mem_of_getElem? (i := 41) rfl)) (wl_in_0 _ (List.mem_of_getElem? (i := 42) rfl)) (wl_in_0 _ (List.mem_of_getElem? (i := 8) rfl)) (wl_in_0 _ (List.mem_of_getElem? (i := 20) rfl))) rfl rfl rfl (by decide +kernel) ⟨Nat.le_of_ble_eq_true rfl, Nat.le_of_ble_eq_true rfl⟩) hK hDD hA0 hP hS 0 12 wm0 rfl rfl hl.1 (Nat.le_of_ble_eq_true rfl) dX12_goesOn_262 (fun A337 H locs hw338 hP hS => ?_)
      have ghw338 : q_X12_ahead A336 A337 := hw338
      obtain ⟨_, hI, hf339, hw338⟩ := hw338
      have r_A337_0_3 : (0 : Int) ≤ (A337 0 3) ∧ (A337 0 3) ≤ 3 := hI 0 3
      have r_A337_0_4 : (0 : Int) ≤ (A337 0 4) ∧ (A337 0 4) ≤ 1600 := hI 0 4
      have r_A337_0_5 : (0 : Int) ≤ (A337 0 5) ∧ (A337 0 5) ≤ 1600 := hI 0 5
      have r_A337_0_8 : (0 : Int) ≤ (A337 0 8) ∧ (A337 0 8) ≤ 5 := hI 0 8
      have hw338x := hw338.1
      have hw338y := hw338.2.1
      replace hw338 := Hd.mk hw338
      refine lv_aload_n hx hb dX12_goesOn_265 rfl (lv_at hl 0 rfl) ?_
      refine lv_iconst (v := iI 0) hx hb dX12_goesOn_266 (by decide +kernel) ?_
      refine x_put (D := (dC, dI)) (ci := 12) (v := .int (iI 0)) (ty := .boolean) (C := RX12) (T := TX12) (N := 85) hx hb hts hiX12 tyX12 tyX12_ok nmX12 hown hK hP hDD hS 0 wm0 rfl 57 (by decide) (hts _ (List.mem_cons_of_mem _ (wl_in_2 _ (List.mem_of_getElem? (i := 9) rfl)))) (fun _ h9 => h9) rfl (by decide +kernel) (by decide +kernel) rfl (Nat.le_of_ble_eq_true rfl) dX12_goesOn_267 (wf57 (v := 0)) (fun H locs hP hS => ?_)
      have hI := hI.st (j := 0) (i := 57) (v := 0) (show (0 : Int) ≤ 0 ∧ 0 ≤ 1 from (by omega))
      refine lv_iconst (v := iI 1) hx hb dX12_goesOn_270 (by decide +kernel) ?_
      obtain ⟨A340, hA340⟩ : ∃ A340 : St, A340 = (stA A337 0 57 0) := ⟨_, rfl⟩
      rw [← hA340] at hP hI
      have e_A340_4 : A340 0 4 = (A337 0 4) := by rw [hA340]; exact rfl
      have e_A340_5 : A340 0 5 = (A337 0 5) := by rw [hA340]; exact rfl
      have e_A340_8 : A340 0 8 = (A337 0 8) := by rw [hA340]; exact rfl
      have e_A333_46 : A333 0 46 = (A275 0 46) := (hf335.2 46 rfl)
      have e_A336_46 : A336 0 46 = (A275 0 46) := by rw [hA336]; exact e_A333_46
      have e_A337_46 : A337 0 46 = (A275 0 46) := (hf339.2 46 rfl).trans e_A336_46
      have e_A340_46 : A340 0 46 = (A275 0 46) := by rw [hA340]; exact e_A337_46
      have e_A333_47 : A333 0 47 = (A 0 47) := (hf335.2 47 rfl).trans e_A275_47
      have e_A336_47 : A336 0 47 = (A 0 47) := by rw [hA336]; exact e_A333_47
      have e_A337_47 : A337 0 47 = (A 0 47) := (hf339.2 47 rfl).trans e_A336_47
      have e_A340_47 : A340 0 47 = (A 0 47) := by rw [hA340]; exact e_A337_47
      have e_A340_57 : A340 0 57 = 0 := by rw [hA340]; rfl
      have ca341 : A275 35 = A 35 := (hf277.1 35 (by decide) rfl)
      have ca342 : A340 1 = A337 1 := by rw [hA340]; exact rfl
      have e_A340_3 : A340 0 3 = (A337 0 3) := by rw [hA340]; exact rfl
      have e_A340_7 : A340 0 7 = (A337 0 7) := by rw [hA340]; exact rfl
      have hlt := RI.lt hp0 (by omega)
      have ca343 : A336 40 = A333 40 := by rw [hA336]; exact rfl
      have ca344 : A337 40 = A333 40 := (hf339.1 40 (by decide) rfl).trans ca343
      have ca345 : A340 40 = A333 40 := by rw [hA340]; exact ca344
      have e_A336_56 : A336 0 56 = (A333 0 56) := by rw [hA336]; exact rfl
      have e_A337_56 : A337 0 56 = (A333 0 56) := (hf339.2 56 rfl).trans e_A336_56
      have e_A340_56 : A340 0 56 = (A333 0 56) := by rw [hA340]; exact e_A337_56
      have ca346 : A333 29 = A275 29 := (hf335.1 29 (by decide) rfl)
      have ca347 : A336 29 = A275 29 := by rw [hA336]; exact ca346
      have ca348 : A337 29 = A275 29 := (hf339.1 29 (by decide) rfl).trans ca347
      have ca349 : A340 29 = A275 29 := by rw [hA340]; exact ca348
      have ca350 : A333 31 = A275 31 := (hf335.1 31 (by decide) rfl)
      have ca351 : A336 31 = A275 31 := by rw [hA336]; exact ca350
      have ca352 : A337 31 = A275 31 := (hf339.1 31 (by decide) rfl).trans ca351
      have ca353 : A340 31 = A275 31 := by rw [hA340]; exact ca352
      have ca354 : A333 33 = A275 33 := (hf335.1 33 (by decide) rfl)
      have ca355 : A336 33 = A275 33 := by rw [hA336]; exact ca354
      have ca356 : A337 33 = A275 33 := (hf339.1 33 (by decide) rfl).trans ca355
      have ca357 : A340 33 = A275 33 := by rw [hA340]; exact ca356
      have ca358 : A333 35 = A275 35 := (hf335.1 35 (by decide) rfl)
      have ca359 : A336 35 = A275 35 := by rw [hA336]; exact ca358
      have ca360 : A337 35 = A275 35 := (hf339.1 35 (by decide) rfl).trans ca359
      have ca361 : A340 35 = A275 35 := by rw [hA340]; exact ca360
      have ca362 : A333 37 = A275 37 := (hf335.1 37 (by decide) rfl)
      have ca363 : A336 37 = A275 37 := by rw [hA336]; exact ca362
      have ca364 : A337 37 = A275 37 := (hf339.1 37 (by decide) rfl).trans ca363
      have ca365 : A340 37 = A275 37 := by rw [hA340]; exact ca364
      have ca366 : A333 39 = A275 39 := (hf335.1 39 (by decide) rfl)
      have ca367 : A336 39 = A275 39 := by rw [hA336]; exact ca366
      have ca368 : A337 39 = A275 39 := (hf339.1 39 (by decide) rfl).trans ca367
      have ca369 : A340 39 = A275 39 := by rw [hA340]; exact ca368
      have e_A333_53 : A333 0 53 = (A 0 53) := (hf335.2 53 rfl).trans e_A275_53
      have e_A336_53 : A336 0 53 = (A 0 53) := by rw [hA336]; exact e_A333_53
      have e_A337_53 : A337 0 53 = (A 0 53) := (hf339.2 53 rfl).trans e_A336_53
      have e_A340_53 : A340 0 53 = (A 0 53) := by rw [hA340]; exact e_A337_53
      have e_A333_54 : A333 0 54 = (A 0 54) := (hf335.2 54 rfl).trans e_A275_54
      have e_A336_54 : A336 0 54 = (A 0 54) := by rw [hA336]; exact e_A333_54
      have e_A337_54 : A337 0 54 = (A 0 54) := (hf339.2 54 rfl).trans e_A336_54
      have e_A340_54 : A340 0 54 = (A 0 54) := by rw [hA340]; exact e_A337_54
      have ca370 : A333 36 = A275 36 := (hf335.1 36 (by decide) rfl)
      have e36 : A336 36 = up (A275 36) ((A 0 53) - 1).toNat 1 := by rw [hA336]; show up (A333 36) _ _ = _; rw [ca370]
      have ca371 : A337 36 = A336 36 := (hf339.1 36 (by decide) rfl)
      have ca372 : A340 36 = A336 36 := by rw [hA340]; exact ca371
      have ca373 : A275 36 = A 36 := (hf277.1 36 (by decide) rfl)
      have h36 : A275 36 (A275 0 53 - 1).toNat = 0 := by rw [ca373, e_A275_53]; omega
      have hlow := SP.low (k := 0) hc279 h36 hIj (RI.base hj1) hj2.out
      have ca374 : A333 39 = A275 39 := (hf335.1 39 (by decide) rfl)
      have ca375 : A336 39 = A275 39 := by rw [hA336]; exact ca374
      have ca376 : A337 39 = A275 39 := (hf339.1 39 (by decide) rfl).trans ca375
      have ca377 : A340 39 = A275 39 := by rw [hA340]; exact ca376
      exact RET 1 _ _ _ _ _ ⟨hk3 _ _ (u_d_X12_goesOn_3 ⟨A275, ghw276, ⟨z280, ghw282, (Or.inl ⟨c283, ⟨z284, ghw286, (Or.inr ⟨c287, ⟨A333, ghw334, ⟨A336, hA336, ⟨A337, ghw338, ⟨A340, hA340, ⟨rfl, rfl⟩⟩⟩⟩⟩⟩)⟩⟩)⟩⟩), hI, fr_def hA340 (fr.sf (fr.trans (fr_def hA336 (fr.st (fr.trans (fr.trans (fr.rf) hf277 rfl rfl) hf335 rfl rfl) (by decide) rfl)) hf339 rfl rfl) rfl), (CI.fr (CI.fr (CI.fr (CI.fr hc278 hf335 rfl rfl) (fr_def hA336 (fr.st (fr.rf (M := [36]) (N := [])) (by decide) rfl)) rfl rfl) hf339 rfl rfl) (fr_def hA340 (fr.sf (fr.rf (M := []) (N := [57])) rfl)) rfl rfl), ⟨by decide, Hd.mk (fun h0 => ⟨fun _ => ⟨by rw [e_A340_57]; exact RI.op (x := 18) (r37 := A275 37) hj1 hIj (by rw [e_A275_3]; rw [hs3]; decide) (by decide) (hlow.imp id (fun t => by rw [show rk 18 = 4 by decide]; exact t)) (fun _ _ => rfl) (fun h => absurd h (by rw [RI.nn hj1 rfl]; decide)) ⟨ca349, ca353, ca357, ca361, ca365, ca369, (ca345.trans hw334.2), e_A340_46, (e_A340_47.trans e_A275_47.symm), (e_A340_53.trans e_A275_53.symm), (e_A340_54.trans e_A275_54.symm), (e_A340_56.trans hw334.1)⟩ (by rw [← (e_A336_5.trans e_A275_5.symm), e_A340_4]; exact hw338x) (by rw [e_A340_4, e_A340_5]; exact hw338y) (LX.of ca342 e_A340_3 e_A340_4 e_A340_5 e_A340_7 hw338.out.2.2.1), ⟨(PR.fr (PR.fr (PR.fr (PR.fr (PR.fr hp2 hf277 rfl rfl) hf335 rfl rfl) (fr_def hA336 (fr.st (fr.rf (M := [36]) (N := [])) (by decide) rfl)) rfl rfl) hf339 rfl rfl) (fr_def hA340 (fr.sf (fr.rf (M := []) (N := [57])) rfl)) rfl rfl), SP.push (x := 18) (ph := 1) (r36 := up (A275 36) ((A 0 53) - 1).toNat 1) hc279 hIj hj1.2.1 (RI.deep hj1 hIj).1 (ca372.trans e36) (fun i hi => up_lo e_A275_53 hi) (by rw [e_A275_53, up_same]) ca377 (ca345.trans hw334.2) (e_A340_53.trans e_A275_53.symm) (e_A340_56.trans hw334.1) ((hlow.imp id (fun t => by rw [show rk 18 = 4 by decide]; exact t)).imp id Int.le_of_lt) (fun h => absurd h (by decide))⟩, by omega⟩, fun h => absurd h (by decide)⟩)⟩⟩ hP hS dX12_goesOn_271
  · have c283 : ¬ z280 = 0 := mt (i_eq0 (rb rz280 (by decide) (by decide))).mpr c283
    have hw282b := hw282.out.mp (by omega)
    refine lv_bipush (v := iI 17) hx hb dX12_goesOn_230 (by decide +kernel) ?_
    refine lv_goto (tgt := 251) hx hb dX12_goesOn_232 (by decide) ?_
    refine x_callv (As := [.int (iI 17)]) (rest := []) ⟨hx, hb, hml, hown, hts⟩ (mb_X12_holdsBack l dC dI cB cI cJ cZ cQ q _ 17 hI ⟨by decide, by decide⟩ (by omega)) (cwV 1 hts (goodV (wl_in_2 _ (List.mem_of_getElem? (i := 2) rfl)) (wl_in_2 _ (List.mem_of_getElem? (i := 3) rfl)) (wl_in_2 _ (List.mem_of_getElem? (i := 4) rfl)) (wl_in_0 _ (List.mem_of_getElem? (i := 8) rfl)) (wl_in_1 _ (List.mem_of_getElem? (i := 44) rfl))) rfl rfl rfl (by decide +kernel) ⟨Nat.le_of_ble_eq_true rfl, Nat.le_of_ble_eq_true rfl⟩) hK hDD hA0 hP hS 0 12 wm0 rfl rfl hl.1 (Nat.le_of_ble_eq_true rfl) dX12_goesOn_251 (fun A378 H locs hw379 hP hS => ?_)
    have ghw379 : q_X12_holdsBack 17 A275 A378 := hw379
    obtain ⟨_, hI, hf380, hw379⟩ := hw379
    have r_A378_0_56 : (0 : Int) ≤ (A378 0 56) ∧ (A378 0 56) ≤ 500 := hI 0 56
    refine lv_aload_n hx hb dX12_goesOn_254 rfl (lv_at hl 0 rfl) ?_
    refine va_get (D := (dC, dI)) (ci := 12) (v := .ref (q 36)) (C := RX12) (T := TX12) (N := 85) hx hb hts hiX12 hown hK hP 0 wm0 rfl 49 (by decide) (hts _ (List.mem_cons_of_mem _ (wl_in_1 _ (List.mem_of_getElem? (i := 47) rfl)))) (fun _ h9 => h9) rfl dX12_goesOn_255 ?_
    refine lv_iload_n hx hb dX12_goesOn_258 rfl (lv_at hl 1 rfl) ?_
    refine lv_iconst (v := iI 1) hx hb dX12_goesOn_259 (by decide +kernel) ?_
    refine x_iast hx hb hK hP hDD hS 36 1 wm36 rfl (by omega) (by decide) dX12_goesOn_260 ws36 (fun H locs hP hS => ?_)
    have hI := hI.st (j := 36) (i := ((A 0 53) - 1).toNat) (v := 1) (show (0 : Int) ≤ 1 ∧ 1 ≤ 2 from (by omega))
    refine lv_aload_n hx hb dX12_goesOn_261 rfl (lv_at hl 0 rfl) ?_
    obtain ⟨A381, hA381⟩ : ∃ A381 : St, A381 = (stA A378 36 ((A 0 53) - 1).toNat 1) := ⟨_, rfl⟩
    rw [← hA381] at hP hI
    have e_A378_4 : A378 0 4 = (A 0 4) := (hf380.2 4 rfl).trans e_A275_4
    have e_A381_4 : A381 0 4 = (A 0 4) := by rw [hA381]; exact e_A378_4
    have e_A378_5 : A378 0 5 = (A 0 5) := (hf380.2 5 rfl).trans e_A275_5
    have e_A381_5 : A381 0 5 = (A 0 5) := by rw [hA381]; exact e_A378_5
    have e_A378_8 : A378 0 8 = (A 0 8) := (hf380.2 8 rfl).trans e_A275_8
    have e_A381_8 : A381 0 8 = (A 0 8) := by rw [hA381]; exact e_A378_8
    refine x_callv (As := []) (rest := []) ⟨hx, hb, hml, hown, hts⟩ (mb_X12_ahead l dC dI cB cI cJ cZ cQ q _ hI) (cwV 0 hts (goodV (wl_in_0 _ (List.mem_of_getElem? (i := 40) rfl)) (wl_in_0 _ (List.mem_of_getElem? (i := 41) rfl)) (wl_in_0 _ (List.mem_of_getElem? (i := 42) rfl)) (wl_in_0 _ (List.mem_of_getElem? (i := 8) rfl)) (wl_in_0 _ (List.mem_of_getElem? (i := 20) rfl))) rfl rfl rfl (by decide +kernel) ⟨Nat.le_of_ble_eq_true rfl, Nat.le_of_ble_eq_true rfl⟩) hK hDD hA0 hP hS 0 12 wm0 rfl rfl hl.1 (Nat.le_of_ble_eq_true rfl) dX12_goesOn_262 (fun A382 H locs hw383 hP hS => ?_)
    have ghw383 : q_X12_ahead A381 A382 := hw383
    obtain ⟨_, hI, hf384, hw383⟩ := hw383
    have r_A382_0_3 : (0 : Int) ≤ (A382 0 3) ∧ (A382 0 3) ≤ 3 := hI 0 3
    have r_A382_0_4 : (0 : Int) ≤ (A382 0 4) ∧ (A382 0 4) ≤ 1600 := hI 0 4
    have r_A382_0_5 : (0 : Int) ≤ (A382 0 5) ∧ (A382 0 5) ≤ 1600 := hI 0 5
    have r_A382_0_8 : (0 : Int) ≤ (A382 0 8) ∧ (A382 0 8) ≤ 5 := hI 0 8
    have hw383x := hw383.1
    have hw383y := hw383.2.1
    replace hw383 := Hd.mk hw383
    refine lv_aload_n hx hb dX12_goesOn_265 rfl (lv_at hl 0 rfl) ?_
    refine lv_iconst (v := iI 0) hx hb dX12_goesOn_266 (by decide +kernel) ?_
    refine x_put (D := (dC, dI)) (ci := 12) (v := .int (iI 0)) (ty := .boolean) (C := RX12) (T := TX12) (N := 85) hx hb hts hiX12 tyX12 tyX12_ok nmX12 hown hK hP hDD hS 0 wm0 rfl 57 (by decide) (hts _ (List.mem_cons_of_mem _ (wl_in_2 _ (List.mem_of_getElem? (i := 9) rfl)))) (fun _ h9 => h9) rfl (by decide +kernel) (by decide +kernel) rfl (Nat.le_of_ble_eq_true rfl) dX12_goesOn_267 (wf57 (v := 0)) (fun H locs hP hS => ?_)
    have hI := hI.st (j := 0) (i := 57) (v := 0) (show (0 : Int) ≤ 0 ∧ 0 ≤ 1 from (by omega))
    refine lv_iconst (v := iI 1) hx hb dX12_goesOn_270 (by decide +kernel) ?_
    obtain ⟨A385, hA385⟩ : ∃ A385 : St, A385 = (stA A382 0 57 0) := ⟨_, rfl⟩
    rw [← hA385] at hP hI
    have e_A385_4 : A385 0 4 = (A382 0 4) := by rw [hA385]; exact rfl
    have e_A385_5 : A385 0 5 = (A382 0 5) := by rw [hA385]; exact rfl
    have e_A385_8 : A385 0 8 = (A382 0 8) := by rw [hA385]; exact rfl
    have e_A378_46 : A378 0 46 = (A275 0 46) := (hf380.2 46 rfl)
    have e_A381_46 : A381 0 46 = (A275 0 46) := by rw [hA381]; exact e_A378_46
    have e_A382_46 : A382 0 46 = (A275 0 46) := (hf384.2 46 rfl).trans e_A381_46
    have e_A385_46 : A385 0 46 = (A275 0 46) := by rw [hA385]; exact e_A382_46
    have e_A378_47 : A378 0 47 = (A 0 47) := (hf380.2 47 rfl).trans e_A275_47
    have e_A381_47 : A381 0 47 = (A 0 47) := by rw [hA381]; exact e_A378_47
    have e_A382_47 : A382 0 47 = (A 0 47) := (hf384.2 47 rfl).trans e_A381_47
    have e_A385_47 : A385 0 47 = (A 0 47) := by rw [hA385]; exact e_A382_47
    have e_A385_57 : A385 0 57 = 0 := by rw [hA385]; rfl
    have ca386 : A275 35 = A 35 := (hf277.1 35 (by decide) rfl)
    have ca387 : A385 1 = A382 1 := by rw [hA385]; exact rfl
    have e_A385_3 : A385 0 3 = (A382 0 3) := by rw [hA385]; exact rfl
    have e_A385_7 : A385 0 7 = (A382 0 7) := by rw [hA385]; exact rfl
    have hlt := RI.lt hp0 (by omega)
    have ca388 : A381 40 = A378 40 := by rw [hA381]; exact rfl
    have ca389 : A382 40 = A378 40 := (hf384.1 40 (by decide) rfl).trans ca388
    have ca390 : A385 40 = A378 40 := by rw [hA385]; exact ca389
    have e_A381_56 : A381 0 56 = (A378 0 56) := by rw [hA381]; exact rfl
    have e_A382_56 : A382 0 56 = (A378 0 56) := (hf384.2 56 rfl).trans e_A381_56
    have e_A385_56 : A385 0 56 = (A378 0 56) := by rw [hA385]; exact e_A382_56
    have ca391 : A378 29 = A275 29 := (hf380.1 29 (by decide) rfl)
    have ca392 : A381 29 = A275 29 := by rw [hA381]; exact ca391
    have ca393 : A382 29 = A275 29 := (hf384.1 29 (by decide) rfl).trans ca392
    have ca394 : A385 29 = A275 29 := by rw [hA385]; exact ca393
    have ca395 : A378 31 = A275 31 := (hf380.1 31 (by decide) rfl)
    have ca396 : A381 31 = A275 31 := by rw [hA381]; exact ca395
    have ca397 : A382 31 = A275 31 := (hf384.1 31 (by decide) rfl).trans ca396
    have ca398 : A385 31 = A275 31 := by rw [hA385]; exact ca397
    have ca399 : A378 33 = A275 33 := (hf380.1 33 (by decide) rfl)
    have ca400 : A381 33 = A275 33 := by rw [hA381]; exact ca399
    have ca401 : A382 33 = A275 33 := (hf384.1 33 (by decide) rfl).trans ca400
    have ca402 : A385 33 = A275 33 := by rw [hA385]; exact ca401
    have ca403 : A378 35 = A275 35 := (hf380.1 35 (by decide) rfl)
    have ca404 : A381 35 = A275 35 := by rw [hA381]; exact ca403
    have ca405 : A382 35 = A275 35 := (hf384.1 35 (by decide) rfl).trans ca404
    have ca406 : A385 35 = A275 35 := by rw [hA385]; exact ca405
    have ca407 : A378 37 = A275 37 := (hf380.1 37 (by decide) rfl)
    have ca408 : A381 37 = A275 37 := by rw [hA381]; exact ca407
    have ca409 : A382 37 = A275 37 := (hf384.1 37 (by decide) rfl).trans ca408
    have ca410 : A385 37 = A275 37 := by rw [hA385]; exact ca409
    have ca411 : A378 39 = A275 39 := (hf380.1 39 (by decide) rfl)
    have ca412 : A381 39 = A275 39 := by rw [hA381]; exact ca411
    have ca413 : A382 39 = A275 39 := (hf384.1 39 (by decide) rfl).trans ca412
    have ca414 : A385 39 = A275 39 := by rw [hA385]; exact ca413
    have e_A378_53 : A378 0 53 = (A 0 53) := (hf380.2 53 rfl).trans e_A275_53
    have e_A381_53 : A381 0 53 = (A 0 53) := by rw [hA381]; exact e_A378_53
    have e_A382_53 : A382 0 53 = (A 0 53) := (hf384.2 53 rfl).trans e_A381_53
    have e_A385_53 : A385 0 53 = (A 0 53) := by rw [hA385]; exact e_A382_53
    have e_A378_54 : A378 0 54 = (A 0 54) := (hf380.2 54 rfl).trans e_A275_54
    have e_A381_54 : A381 0 54 = (A 0 54) := by rw [hA381]; exact e_A378_54
    have e_A382_54 : A382 0 54 = (A 0 54) := (hf384.2 54 rfl).trans e_A381_54
    have e_A385_54 : A385 0 54 = (A 0 54) := by rw [hA385]; exact e_A382_54
    have ca415 : A378 36 = A275 36 := (hf380.1 36 (by decide) rfl)
    have e36 : A381 36 = up (A275 36) ((A 0 53) - 1).toNat 1 := by rw [hA381]; show up (A378 36) _ _ = _; rw [ca415]
    have ca416 : A382 36 = A381 36 := (hf384.1 36 (by decide) rfl)
    have ca417 : A385 36 = A381 36 := by rw [hA385]; exact ca416
    have ca418 : A275 36 = A 36 := (hf277.1 36 (by decide) rfl)
    have h36 : A275 36 (A275 0 53 - 1).toNat = 0 := by rw [ca418, e_A275_53]; omega
    have hlow := SP.low (k := 0) hc279 h36 hIj (RI.base hj1) hj2.out
    have ca419 : A378 39 = A275 39 := (hf380.1 39 (by decide) rfl)
    have ca420 : A381 39 = A275 39 := by rw [hA381]; exact ca419
    have ca421 : A382 39 = A275 39 := (hf384.1 39 (by decide) rfl).trans ca420
    have ca422 : A385 39 = A275 39 := by rw [hA385]; exact ca421
    exact RET 1 _ _ _ _ _ ⟨hk3 _ _ (u_d_X12_goesOn_3 ⟨A275, ghw276, ⟨z280, ghw282, (Or.inr ⟨c283, ⟨A378, ghw379, ⟨A381, hA381, ⟨A382, ghw383, ⟨A385, hA385, ⟨rfl, rfl⟩⟩⟩⟩⟩⟩)⟩⟩), hI, fr_def hA385 (fr.sf (fr.trans (fr_def hA381 (fr.st (fr.trans (fr.trans (fr.rf) hf277 rfl rfl) hf380 rfl rfl) (by decide) rfl)) hf384 rfl rfl) rfl), (CI.fr (CI.fr (CI.fr (CI.fr hc278 hf380 rfl rfl) (fr_def hA381 (fr.st (fr.rf (M := [36]) (N := [])) (by decide) rfl)) rfl rfl) hf384 rfl rfl) (fr_def hA385 (fr.sf (fr.rf (M := []) (N := [57])) rfl)) rfl rfl), ⟨by decide, Hd.mk (fun h0 => ⟨fun _ => ⟨by rw [e_A385_57]; exact RI.op (x := 17) (r37 := A275 37) hj1 hIj (by rw [e_A275_3]; rw [hs3]; decide) (by decide) (hlow.imp id (fun t => by rw [show rk 17 = 4 by decide]; exact t)) (fun _ _ => rfl) (fun h => absurd h (by rw [RI.nn hj1 rfl]; decide)) ⟨ca394, ca398, ca402, ca406, ca410, ca414, (ca390.trans hw379.2), e_A385_46, (e_A385_47.trans e_A275_47.symm), (e_A385_53.trans e_A275_53.symm), (e_A385_54.trans e_A275_54.symm), (e_A385_56.trans hw379.1)⟩ (by rw [← (e_A381_5.trans e_A275_5.symm), e_A385_4]; exact hw383x) (by rw [e_A385_4, e_A385_5]; exact hw383y) (LX.of ca387 e_A385_3 e_A385_4 e_A385_5 e_A385_7 hw383.out.2.2.1), ⟨(PR.fr (PR.fr (PR.fr (PR.fr (PR.fr hp2 hf277 rfl rfl) hf380 rfl rfl) (fr_def hA381 (fr.st (fr.rf (M := [36]) (N := [])) (by decide) rfl)) rfl rfl) hf384 rfl rfl) (fr_def hA385 (fr.sf (fr.rf (M := []) (N := [57])) rfl)) rfl rfl), SP.push (x := 17) (ph := 1) (r36 := up (A275 36) ((A 0 53) - 1).toNat 1) hc279 hIj hj1.2.1 (RI.deep hj1 hIj).1 (ca417.trans e36) (fun i hi => up_lo e_A275_53 hi) (by rw [e_A275_53, up_same]) ca422 (ca390.trans hw379.2) (e_A385_53.trans e_A275_53.symm) (e_A385_56.trans hw379.1) ((hlow.imp id (fun t => by rw [show rk 17 = 4 by decide]; exact t)).imp id Int.le_of_lt) (fun h => absurd h (by decide))⟩, by omega⟩, fun h => absurd h (by decide)⟩)⟩⟩ hP hS dX12_goesOn_271
set_option maxHeartbeats 4000000 in
set_option maxRecDepth 100000 in
theorem mb_X12_goesOn_c314 (l : Launch) (dC : Nat → ClassId) (dI : Nat → Nat → Nat) (cB cI cJ cZ cQ : ClassId) (q : Nat → Nat) (A : St) (hI : IM A) (hp0 : RI 1 A) (hp1 : A 0 8 = 0) (hp2 : PR A) (hp3 : A 0 57 = 1) (hp4 : SP A) (hcCI : CI A) (p : Program) (e : Env) (s : State) (m : MethodId) (below : List Frame) (meth : Method) (c : Code) (Q : State → Prop) (AS : Nat → Prop) (hx : p.tables.exec = Jvm.exec) (hb : c.code = cX12_goesOn) (hml : c.maxLocals = 5) (hown : s.vm.findClass RX12 = some m.cls) (hts : ∀ w ∈ ws_mb_X12_goesOn, w.before [.ref (q 0)].toArray s = true) (hK : va_K (dC, dI) vwCl (tyA cB cI cJ cZ cQ) s) (hDD : ∀ A', va_D AS (WM cI cJ cZ q A')) (hA0 : ∀ b : Nat, s.heap.size ≤ b → AS b) (RET : ∀ (z : Int) (u : St) (H : Heap) (locs : List Loc) (pc : Nat) (ls : Array Slot), ((fun z u => r_X12_goesOn A z u ∧ IM u ∧ fr [33, 34, 35, 36, 37, 40] [3, 4, 5, 6, 7, 8, 9, 46, 53, 54, 56, 57] A u ∧ CI u ∧ ((0 ≤ z ∧ z ≤ 1) ∧ (Hd (u 0 8 = 0 → (z = 1 → RI (u 0 57) u ∧ (PR u ∧ SP u) ∧ A 0 4 + 1 ≤ u 0 4) ∧ (z = 0 → DP (u 33) (sA u) (1600 * u 0 47 + u 0 46) 1 ∧ CB u ∧ A 0 4 ≤ u 0 4))))) z u) → va_P (dC, dI) vwCl (WM cI cJ cZ q u) H → va_S AS s.heap H locs → decode cX12_goesOn pc = .ok (.ireturn, 1) → W p l e (headSpec ws_mb_X12_goesOn ({ frames := 2, cells := 0, slots := 0, locals := 47 } : Room)).room s m [.ref (q 0)].toArray below meth c H locs 0 0 Q (F0 m pc ls [.int (iI z)])) (H : Heap) (locs : List Loc) (ls : Array Slot) (z1 z2 : Int) (rz1 : (0 : Int) ≤ z1 ∧ z1 ≤ 5) (rz2 : (0 : Int) ≤ z2 ∧ z2 ≤ 1) (hz1 : z1 = A 35 ((A 0 53) - 1).toNat) (hs1 : A 0 3 = 1) (A443 : St) (hIv : IM A443) (hj442 : fr [] [8, 9] A A443) (hk6 : ∀ (z : Int) (u : St), (d_X12_goesOn_6 A z u z1 z2 A443) → r_X12_goesOn A z u) (hP : va_P (dC, dI) vwCl (WM cI cJ cZ q A443) H) (hS : va_S AS s.heap H locs) (hl : lv_has ls 5 [(0, .ref (q 0)), (1, .int (iI ((A 0 53) - 1))), (2, .int (iI z1)), (3, .int (iI z2))]) : W p l e (headSpec ws_mb_X12_goesOn ({ frames := 2, cells := 0, slots := 0, locals := 47 } : Room)).room s m [.ref (q 0)].toArray below meth c H locs 0 0 Q (F0 m 314 ls []) := by
  have hiX12 : ∀ w ∈ u_ws RX12 TX12 85, w ∈ ws_mb_X12_goesOn := fun w h => List.mem_cons_of_mem _ (wx_lay w h)
  have hI0 := hI
  have hdp := RI.deep hp0 hI0
  have hrm := RI.room hp0 hI0
  have r_A_0_3 : (0 : Int) ≤ (A 0 3) ∧ (A 0 3) ≤ 3 := hI 0 3
  have r_A_0_4 : (0 : Int) ≤ (A 0 4) ∧ (A 0 4) ≤ 1600 := hI 0 4
  have r_A_0_5 : (0 : Int) ≤ (A 0 5) ∧ (A 0 5) ≤ 1600 := hI 0 5
  have r_A_0_7 : (-9223372036854775808 : Int) ≤ (A 0 7) ∧ (A 0 7) ≤ 9223372036854775807 := hI 0 7
  have r_A_0_8 : (0 : Int) ≤ (A 0 8) ∧ (A 0 8) ≤ 5 := hI 0 8
  have r_A_0_46 : (0 : Int) ≤ (A 0 46) ∧ (A 0 46) ≤ 1600 := hI 0 46
  have r_A_0_47 : (0 : Int) ≤ (A 0 47) ∧ (A 0 47) ≤ 1 := hI 0 47
  have r_A_0_53 : (0 : Int) ≤ (A 0 53) ∧ (A 0 53) ≤ 20 := hI 0 53
  have r_A_0_54 : (0 : Int) ≤ (A 0 54) ∧ (A 0 54) ≤ 8 := hI 0 54
  have r_A_0_56 : (0 : Int) ≤ (A 0 56) ∧ (A 0 56) ≤ 500 := hI 0 56
  have hop := hp0.1
  have hI := hIv
  refine lv_aload_n hx hb dX12_goesOn_314 rfl (lv_at hl 0 rfl) ?_
  refine va_get (D := (dC, dI)) (ci := 12) (v := .int (iI (A443 0 8))) (C := RX12) (T := TX12) (N := 85) hx hb hts hiX12 hown hK hP 0 wm0 rfl 8 (by decide) (hts _ (List.mem_cons_of_mem _ (wl_in_0 _ (List.mem_of_getElem? (i := 16) rfl)))) (fun _ h9 => h9) rfl dX12_goesOn_315 ?_
  have r_A443_0_8 : (0 : Int) ≤ (A443 0 8) ∧ (A443 0 8) ≤ 5 := hI 0 8
  refine lv_if_le (tgt := 323) hx hb dX12_goesOn_318 (by decide) (fun c444 => ?_) (fun c444 => ?_)
  · have c444 : (A443 0 8) ≤ 0 := (i_le0 (rb r_A443_0_8 (by decide) (by decide))).mp c444
    refine lv_aload_n hx hb dX12_goesOn_323 rfl (lv_at hl 0 rfl) ?_
    refine lv_ldc2 (v := 6385252) hx hb hown (hts _ (List.mem_cons_of_mem _ (wl_in_1 _ (List.mem_of_getElem? (i := 1) rfl)))) dX12_goesOn_324 ?_
    refine tp_l (y := jI 6385252) (by decide +kernel) ?_
    have e_A443_3 : A443 0 3 = (A 0 3) := (hj442.2 3 rfl)
    have e_A443_7 : A443 0 7 = (A 0 7) := (hj442.2 7 rfl)
    refine x_calli (As := [.long (jI 6385252)]) (rest := []) ⟨hx, hb, hml, hown, hts⟩ (mb_X12_isWord l dC dI cB cI cJ cZ cQ q _ 6385252 hI ⟨by decide, by decide⟩) (cwV 1 hts (goodV (wl_in_1 _ (List.mem_of_getElem? (i := 59) rfl)) (wl_in_2 _ (List.mem_of_getElem? (i := 0) rfl)) (wl_in_2 _ (List.mem_of_getElem? (i := 1) rfl)) (wl_in_0 _ (List.mem_of_getElem? (i := 8) rfl)) (wl_in_0 _ (List.mem_of_getElem? (i := 35) rfl))) rfl rfl rfl (by decide +kernel) ⟨Nat.le_of_ble_eq_true rfl, Nat.le_of_ble_eq_true rfl⟩) hK hDD hA0 hP hS 0 12 wm0 rfl rfl hl.1 (Nat.le_of_ble_eq_true rfl) dX12_goesOn_327 (fun z445 A446 H locs hw447 hP hS => ?_)
    obtain ⟨rfl, hw447⟩ := hw447
    have ghw447 : q_X12_isWord 6385252 A443 z445 := hw447
    have hw447 := hw447.2
    have rz445 : 0 ≤ z445 ∧ z445 ≤ 1 := hw447.1
    replace hw447 := Hd.mk hw447.2
    refine lv_istore (lv' := [(4, .int (iI z445)), (0, .ref (q 0)), (1, .int (iI ((A 0 53) - 1))), (2, .int (iI z1)), (3, .int (iI z2))]) hx hb dX12_goesOn_330 hl (by decide) rfl (fun ls hl => ?_)
    refine lv_aload_n hx hb dX12_goesOn_332 rfl (lv_at hl 1 rfl) ?_
    refine lv_iload hx hb dX12_goesOn_333 (lv_at hl 0 rfl) ?_
    refine lv_if_eq (tgt := 342) hx hb dX12_goesOn_335 (by decide) (fun c448 => ?_) (fun c448 => ?_)
    · have c448 : z445 = 0 := (i_eq0 (rb rz445 (by decide) (by decide))).mp c448
      refine lv_iconst (v := iI 1) hx hb dX12_goesOn_342 (by decide +kernel) ?_
      refine x_callv (As := [.int (iI 1)]) (rest := []) ⟨hx, hb, hml, hown, hts⟩ (mb_X12_joins l dC dI cB cI cJ cZ cQ q _ 1 hI ⟨by decide, by decide⟩ (by exact (RI1.fr hp0 hj442 rfl rfl)) (CI.fr hcCI hj442 rfl rfl) (SP.fr hp4 hj442 rfl rfl)) (cwV 1 hts (goodV (wl_in_2 _ (List.mem_of_getElem? (i := 10) rfl)) (wl_in_2 _ (List.mem_of_getElem? (i := 11) rfl)) (wl_in_2 _ (List.mem_of_getElem? (i := 12) rfl)) (wl_in_0 _ (List.mem_of_getElem? (i := 8) rfl)) (wl_in_1 _ (List.mem_of_getElem? (i := 34) rfl))) rfl rfl rfl (by decide +kernel) ⟨Nat.le_of_ble_eq_true rfl, Nat.le_of_ble_eq_true rfl⟩) hK hDD hA0 hP hS 0 12 wm0 rfl rfl hl.1 (Nat.le_of_ble_eq_true rfl) dX12_goesOn_343 (fun A449 H locs hw450 hP hS => ?_)
      have ghw450 : q_X12_joins 1 A443 A449 := hw450
      obtain ⟨_, hI, hf451, hw450⟩ := hw450
      obtain ⟨hc452, hw450⟩ := hw450
      obtain ⟨hc453, hw450⟩ := hw450
      have e_A443_53 : A443 0 53 = (A 0 53) := (hj442.2 53 rfl)
      have e_A449_53 : A449 0 53 = (A 0 53) := (hf451.2 53 rfl).trans e_A443_53
      have r_A449_0_56 : (0 : Int) ≤ (A449 0 56) ∧ (A449 0 56) ≤ 500 := hI 0 56
      have hj1 := hw450.1
      have hj2 := Hd.mk hw450.2
      clear hw450
      have hIj := hI
      have hrj := RI.room hj1 hIj
      have e_A449_3 : A449 0 3 = (A 0 3) := (hf451.2 3 rfl).trans e_A443_3
      have e_A443_4 : A443 0 4 = (A 0 4) := (hj442.2 4 rfl)
      have e_A449_4 : A449 0 4 = (A 0 4) := (hf451.2 4 rfl).trans e_A443_4
      have e_A443_5 : A443 0 5 = (A 0 5) := (hj442.2 5 rfl)
      have e_A449_5 : A449 0 5 = (A 0 5) := (hf451.2 5 rfl).trans e_A443_5
      have e_A449_7 : A449 0 7 = (A 0 7) := (hf451.2 7 rfl).trans e_A443_7
      have e_A449_8 : A449 0 8 = (A443 0 8) := (hf451.2 8 rfl)
      have e_A443_47 : A443 0 47 = (A 0 47) := (hj442.2 47 rfl)
      have e_A449_47 : A449 0 47 = (A 0 47) := (hf451.2 47 rfl).trans e_A443_47
      have e_A443_54 : A443 0 54 = (A 0 54) := (hj442.2 54 rfl)
      have e_A449_54 : A449 0 54 = (A 0 54) := (hf451.2 54 rfl).trans e_A443_54
      have r_A449_0_46 : (0 : Int) ≤ (A449 0 46) ∧ (A449 0 46) ≤ 1600 := hI 0 46
      refine lv_aload_n hx hb dX12_goesOn_346 rfl (lv_at hl 1 rfl) ?_
      refine lv_iload hx hb dX12_goesOn_347 (lv_at hl 0 rfl) ?_
      refine lv_if_eq (tgt := 357) hx hb dX12_goesOn_349 (by decide) (fun _ => ?_) (fun c454 => False.elim (by have c454 : ¬ z445 = 0 := mt (i_eq0 (rb rz445 (by decide) (by decide))).mpr c454; omega))
      refine lv_bipush (v := iI 21) hx hb dX12_goesOn_357 (by decide +kernel) ?_
      refine x_callv (As := [.int (iI 21)]) (rest := []) ⟨hx, hb, hml, hown, hts⟩ (mb_X12_holdsBack l dC dI cB cI cJ cZ cQ q _ 21 hI ⟨by decide, by decide⟩ (by omega)) (cwV 1 hts (goodV (wl_in_2 _ (List.mem_of_getElem? (i := 2) rfl)) (wl_in_2 _ (List.mem_of_getElem? (i := 3) rfl)) (wl_in_2 _ (List.mem_of_getElem? (i := 4) rfl)) (wl_in_0 _ (List.mem_of_getElem? (i := 8) rfl)) (wl_in_1 _ (List.mem_of_getElem? (i := 44) rfl))) rfl rfl rfl (by decide +kernel) ⟨Nat.le_of_ble_eq_true rfl, Nat.le_of_ble_eq_true rfl⟩) hK hDD hA0 hP hS 0 12 wm0 rfl rfl hl.1 (Nat.le_of_ble_eq_true rfl) dX12_goesOn_359 (fun A455 H locs hw456 hP hS => ?_)
      have ghw456 : q_X12_holdsBack 21 A449 A455 := hw456
      obtain ⟨_, hI, hf457, hw456⟩ := hw456
      have r_A455_0_56 : (0 : Int) ≤ (A455 0 56) ∧ (A455 0 56) ≤ 500 := hI 0 56
      refine lv_aload_n hx hb dX12_goesOn_362 rfl (lv_at hl 1 rfl) ?_
      refine va_get (D := (dC, dI)) (ci := 12) (v := .ref (q 36)) (C := RX12) (T := TX12) (N := 85) hx hb hts hiX12 hown hK hP 0 wm0 rfl 49 (by decide) (hts _ (List.mem_cons_of_mem _ (wl_in_1 _ (List.mem_of_getElem? (i := 47) rfl)))) (fun _ h9 => h9) rfl dX12_goesOn_363 ?_
      refine lv_iload_n hx hb dX12_goesOn_366 rfl (lv_at hl 2 rfl) ?_
      refine lv_iconst (v := iI 0) hx hb dX12_goesOn_367 (by decide +kernel) ?_
      refine x_iast hx hb hK hP hDD hS 36 1 wm36 rfl (by omega) (by decide) dX12_goesOn_368 ws36 (fun H locs hP hS => ?_)
      have hI := hI.st (j := 36) (i := ((A 0 53) - 1).toNat) (v := 0) (show (0 : Int) ≤ 0 ∧ 0 ≤ 2 from (by omega))
      refine lv_aload_n hx hb dX12_goesOn_369 rfl (lv_at hl 1 rfl) ?_
      refine va_get (D := (dC, dI)) (ci := 12) (v := .ref (q 37)) (C := RX12) (T := TX12) (N := 85) hx hb hts hiX12 hown hK hP 0 wm0 rfl 50 (by decide) (hts _ (List.mem_cons_of_mem _ (wl_in_1 _ (List.mem_of_getElem? (i := 48) rfl)))) (fun _ h9 => h9) rfl dX12_goesOn_370 ?_
      refine lv_iload_n hx hb dX12_goesOn_373 rfl (lv_at hl 2 rfl) ?_
      refine lv_iconst (v := iI 1) hx hb dX12_goesOn_374 (by decide +kernel) ?_
      refine x_zast hx hb hK hP hDD hS 37 3 wm37 rfl (by omega) (by decide) dX12_goesOn_375 (by omega) ws37 (fun H locs hP hS => ?_)
      have hI := hI.st (j := 37) (i := ((A 0 53) - 1).toNat) (v := 1) (show (0 : Int) ≤ 1 ∧ 1 ≤ 1 from (by omega))
      refine lv_aload_n hx hb dX12_goesOn_376 rfl (lv_at hl 1 rfl) ?_
      obtain ⟨A458, hA458⟩ : ∃ A458 : St, A458 = (stA (stA A455 36 ((A 0 53) - 1).toNat 0) 37 ((A 0 53) - 1).toNat 1) := ⟨_, rfl⟩
      rw [← hA458] at hP hI
      have e_A455_4 : A455 0 4 = (A 0 4) := (hf457.2 4 rfl).trans e_A449_4
      have e_A458_4 : A458 0 4 = (A 0 4) := by rw [hA458]; exact e_A455_4
      have e_A455_5 : A455 0 5 = (A 0 5) := (hf457.2 5 rfl).trans e_A449_5
      have e_A458_5 : A458 0 5 = (A 0 5) := by rw [hA458]; exact e_A455_5
      have e_A455_8 : A455 0 8 = (A443 0 8) := (hf457.2 8 rfl).trans e_A449_8
      have e_A458_8 : A458 0 8 = (A443 0 8) := by rw [hA458]; exact e_A455_8
      refine x_callv (As := []) (rest := []) ⟨hx, hb, hml, hown, hts⟩ (mb_X12_ahead l dC dI cB cI cJ cZ cQ q _ hI) (cwV 0 hts (goodV (wl_in_0 _ (List.mem_of_getElem? (i := 40) rfl)) (wl_in_0 _ (List.mem_of_getElem? (i := 41) rfl)) (wl_in_0 _ (List.mem_of_getElem? (i := 42) rfl)) (wl_in_0 _ (List.mem_of_getElem? (i := 8) rfl)) (wl_in_0 _ (List.mem_of_getElem? (i := 20) rfl))) rfl rfl rfl (by decide +kernel) ⟨Nat.le_of_ble_eq_true rfl, Nat.le_of_ble_eq_true rfl⟩) hK hDD hA0 hP hS 0 12 wm0 rfl rfl hl.1 (Nat.le_of_ble_eq_true rfl) dX12_goesOn_377 (fun A459 H locs hw460 hP hS => ?_)
      have ghw460 : q_X12_ahead A458 A459 := hw460
      obtain ⟨_, hI, hf461, hw460⟩ := hw460
      have r_A459_0_3 : (0 : Int) ≤ (A459 0 3) ∧ (A459 0 3) ≤ 3 := hI 0 3
      have r_A459_0_4 : (0 : Int) ≤ (A459 0 4) ∧ (A459 0 4) ≤ 1600 := hI 0 4
      have r_A459_0_5 : (0 : Int) ≤ (A459 0 5) ∧ (A459 0 5) ≤ 1600 := hI 0 5
      have r_A459_0_8 : (0 : Int) ≤ (A459 0 8) ∧ (A459 0 8) ≤ 5 := hI 0 8
      have hw460x := hw460.1
      have hw460y := hw460.2.1
      replace hw460 := Hd.mk hw460
      refine lv_aload_n hx hb dX12_goesOn_380 rfl (lv_at hl 1 rfl) ?_
      refine lv_iconst (v := iI 0) hx hb dX12_goesOn_381 (by decide +kernel) ?_
      refine x_put (D := (dC, dI)) (ci := 12) (v := .int (iI 0)) (ty := .boolean) (C := RX12) (T := TX12) (N := 85) hx hb hts hiX12 tyX12 tyX12_ok nmX12 hown hK hP hDD hS 0 wm0 rfl 57 (by decide) (hts _ (List.mem_cons_of_mem _ (wl_in_2 _ (List.mem_of_getElem? (i := 9) rfl)))) (fun _ h9 => h9) rfl (by decide +kernel) (by decide +kernel) rfl (Nat.le_of_ble_eq_true rfl) dX12_goesOn_382 (wf57 (v := 0)) (fun H locs hP hS => ?_)
      have hI := hI.st (j := 0) (i := 57) (v := 0) (show (0 : Int) ≤ 0 ∧ 0 ≤ 1 from (by omega))
      refine lv_iconst (v := iI 1) hx hb dX12_goesOn_385 (by decide +kernel) ?_
      obtain ⟨A462, hA462⟩ : ∃ A462 : St, A462 = (stA A459 0 57 0) := ⟨_, rfl⟩
      rw [← hA462] at hP hI
      have e_A462_4 : A462 0 4 = (A459 0 4) := by rw [hA462]; exact rfl
      have e_A462_5 : A462 0 5 = (A459 0 5) := by rw [hA462]; exact rfl
      have e_A462_8 : A462 0 8 = (A459 0 8) := by rw [hA462]; exact rfl
      have e_A455_46 : A455 0 46 = (A449 0 46) := (hf457.2 46 rfl)
      have e_A458_46 : A458 0 46 = (A449 0 46) := by rw [hA458]; exact e_A455_46
      have e_A459_46 : A459 0 46 = (A449 0 46) := (hf461.2 46 rfl).trans e_A458_46
      have e_A462_46 : A462 0 46 = (A449 0 46) := by rw [hA462]; exact e_A459_46
      have e_A455_47 : A455 0 47 = (A 0 47) := (hf457.2 47 rfl).trans e_A449_47
      have e_A458_47 : A458 0 47 = (A 0 47) := by rw [hA458]; exact e_A455_47
      have e_A459_47 : A459 0 47 = (A 0 47) := (hf461.2 47 rfl).trans e_A458_47
      have e_A462_47 : A462 0 47 = (A 0 47) := by rw [hA462]; exact e_A459_47
      have e_A462_57 : A462 0 57 = 0 := by rw [hA462]; rfl
      have ca463 : A443 35 = A 35 := (hj442.1 35 (by decide) rfl)
      have ca464 : A449 35 = A 35 := (hf451.1 35 (by decide) rfl).trans ca463
      have ca465 : A462 1 = A459 1 := by rw [hA462]; exact rfl
      have e_A462_3 : A462 0 3 = (A459 0 3) := by rw [hA462]; exact rfl
      have e_A462_7 : A462 0 7 = (A459 0 7) := by rw [hA462]; exact rfl
      have hlt := RI.lt hp0 (by omega)
      have ca466 : A458 40 = A455 40 := by rw [hA458]; exact rfl
      have ca467 : A459 40 = A455 40 := (hf461.1 40 (by decide) rfl).trans ca466
      have ca468 : A462 40 = A455 40 := by rw [hA462]; exact ca467
      have ca469 : A455 37 = A449 37 := (hf457.1 37 (by decide) rfl)
      have e37 : A458 37 = up (A449 37) ((A 0 53) - 1).toNat 1 := by rw [hA458]; show up (A455 37) _ _ = _; rw [ca469]
      have ca470 : A459 37 = A458 37 := (hf461.1 37 (by decide) rfl)
      have ca471 : A462 37 = A458 37 := by rw [hA462]; exact ca470
      have e_A458_56 : A458 0 56 = (A455 0 56) := by rw [hA458]; exact rfl
      have e_A459_56 : A459 0 56 = (A455 0 56) := (hf461.2 56 rfl).trans e_A458_56
      have e_A462_56 : A462 0 56 = (A455 0 56) := by rw [hA462]; exact e_A459_56
      have ca472 : A455 29 = A449 29 := (hf457.1 29 (by decide) rfl)
      have ca473 : A458 29 = A449 29 := by rw [hA458]; exact ca472
      have ca474 : A459 29 = A449 29 := (hf461.1 29 (by decide) rfl).trans ca473
      have ca475 : A462 29 = A449 29 := by rw [hA462]; exact ca474
      have ca476 : A455 31 = A449 31 := (hf457.1 31 (by decide) rfl)
      have ca477 : A458 31 = A449 31 := by rw [hA458]; exact ca476
      have ca478 : A459 31 = A449 31 := (hf461.1 31 (by decide) rfl).trans ca477
      have ca479 : A462 31 = A449 31 := by rw [hA462]; exact ca478
      have ca480 : A455 33 = A449 33 := (hf457.1 33 (by decide) rfl)
      have ca481 : A458 33 = A449 33 := by rw [hA458]; exact ca480
      have ca482 : A459 33 = A449 33 := (hf461.1 33 (by decide) rfl).trans ca481
      have ca483 : A462 33 = A449 33 := by rw [hA462]; exact ca482
      have ca484 : A455 35 = A449 35 := (hf457.1 35 (by decide) rfl)
      have ca485 : A458 35 = A449 35 := by rw [hA458]; exact ca484
      have ca486 : A459 35 = A449 35 := (hf461.1 35 (by decide) rfl).trans ca485
      have ca487 : A462 35 = A449 35 := by rw [hA462]; exact ca486
      have ca488 : A455 39 = A449 39 := (hf457.1 39 (by decide) rfl)
      have ca489 : A458 39 = A449 39 := by rw [hA458]; exact ca488
      have ca490 : A459 39 = A449 39 := (hf461.1 39 (by decide) rfl).trans ca489
      have ca491 : A462 39 = A449 39 := by rw [hA462]; exact ca490
      have e_A455_53 : A455 0 53 = (A 0 53) := (hf457.2 53 rfl).trans e_A449_53
      have e_A458_53 : A458 0 53 = (A 0 53) := by rw [hA458]; exact e_A455_53
      have e_A459_53 : A459 0 53 = (A 0 53) := (hf461.2 53 rfl).trans e_A458_53
      have e_A462_53 : A462 0 53 = (A 0 53) := by rw [hA462]; exact e_A459_53
      have e_A455_54 : A455 0 54 = (A 0 54) := (hf457.2 54 rfl).trans e_A449_54
      have e_A458_54 : A458 0 54 = (A 0 54) := by rw [hA458]; exact e_A455_54
      have e_A459_54 : A459 0 54 = (A 0 54) := (hf461.2 54 rfl).trans e_A458_54
      have e_A462_54 : A462 0 54 = (A 0 54) := by rw [hA462]; exact e_A459_54
      have ca492 : A455 36 = A449 36 := (hf457.1 36 (by decide) rfl)
      have e36 : A458 36 = up (A449 36) ((A 0 53) - 1).toNat 0 := by rw [hA458]; show up (A455 36) _ _ = _; rw [ca492]
      have ca493 : A459 36 = A458 36 := (hf461.1 36 (by decide) rfl)
      have ca494 : A462 36 = A458 36 := by rw [hA462]; exact ca493
      have ca495 : A455 39 = A449 39 := (hf457.1 39 (by decide) rfl)
      have ca496 : A458 39 = A449 39 := by rw [hA458]; exact ca495
      have ca497 : A459 39 = A449 39 := (hf461.1 39 (by decide) rfl).trans ca496
      have ca498 : A462 39 = A449 39 := by rw [hA462]; exact ca497
      exact RET 1 _ _ _ _ _ ⟨hk6 _ _ (u_d_X12_goesOn_6 ⟨hIv, (Or.inl ⟨c444, ⟨z445, ghw447, (Or.inl ⟨c448, ⟨A449, ghw450, ⟨A455, ghw456, ⟨A458, hA458, ⟨A459, ghw460, ⟨A462, hA462, ⟨rfl, rfl⟩⟩⟩⟩⟩⟩⟩)⟩⟩)⟩), hI, fr_def hA462 (fr.sf (fr.trans (fr_def hA458 (fr.st (fr.st (fr.trans (fr.trans (fr.trans (fr.rf) hj442 rfl rfl) hf451 rfl rfl) hf457 rfl rfl) (by decide) rfl) (by decide) rfl)) hf461 rfl rfl) rfl), (CI.fr (CI.fr (CI.fr (CI.fr hc452 hf457 rfl rfl) (fr_def hA458 (fr.st (fr.st (fr.rf (M := [36, 37]) (N := [])) (by decide) rfl) (by decide) rfl)) rfl rfl) hf461 rfl rfl) (fr_def hA462 (fr.sf (fr.rf (M := []) (N := [57])) rfl)) rfl rfl), ⟨by decide, Hd.mk (fun h0 => ⟨fun _ => ⟨by rw [e_A462_57]; exact RI.op (x := 21) (r37 := up (A449 37) ((A 0 53) - 1).toNat 1) hj1 hIj (by rw [e_A449_3]; rw [hs1]; decide) (by decide) (hj2.out.imp id (fun t => by rw [show rk 21 = 1 by decide]; exact t)) (fun i hi => up_lo e_A449_53 hi) (fun _ => by decide) ⟨ca475, ca479, ca483, ca487, (ca471.trans e37), ca491, (ca468.trans hw456.2), e_A462_46, (e_A462_47.trans e_A449_47.symm), (e_A462_53.trans e_A449_53.symm), (e_A462_54.trans e_A449_54.symm), (e_A462_56.trans hw456.1)⟩ (by rw [← (e_A458_5.trans e_A449_5.symm), e_A462_4]; exact hw460x) (by rw [e_A462_4, e_A462_5]; exact hw460y) (LX.of ca465 e_A462_3 e_A462_4 e_A462_5 e_A462_7 hw460.out.2.2.1), ⟨(PR.fr (PR.fr (PR.fr (PR.fr (PR.fr (PR.fr hp2 hj442 rfl rfl) hf451 rfl rfl) hf457 rfl rfl) (fr_def hA458 (fr.st (fr.st (fr.rf (M := [36, 37]) (N := [])) (by decide) rfl) (by decide) rfl)) rfl rfl) hf461 rfl rfl) (fr_def hA462 (fr.sf (fr.rf (M := []) (N := [57])) rfl)) rfl rfl), SP.push (x := 21) (ph := 0) (r36 := up (A449 36) ((A 0 53) - 1).toNat 0) hc453 hIj hj1.2.1 (RI.deep hj1 hIj).1 (ca494.trans e36) (fun i hi => up_lo e_A449_53 hi) (by rw [e_A449_53, up_same]) ca498 (ca468.trans hw456.2) (e_A462_53.trans e_A449_53.symm) (e_A462_56.trans hw456.1) ((hj2.out.imp id (fun t => by rw [show rk 21 = 1 by decide]; exact t)).imp id Int.le_of_lt) (fun _ => ⟨by decide, Or.inr (by decide)⟩)⟩, by omega⟩, fun h => absurd h (by decide)⟩)⟩⟩ hP hS dX12_goesOn_386
    · have c448 : ¬ z445 = 0 := mt (i_eq0 (rb rz445 (by decide) (by decide))).mpr c448
      have hw447b := hw447.out.mp (by omega)
      refine lv_iconst (v := iI 2) hx hb dX12_goesOn_338 (by decide +kernel) ?_
      refine lv_goto (tgt := 343) hx hb dX12_goesOn_339 (by decide) ?_
      refine x_callv (As := [.int (iI 2)]) (rest := []) ⟨hx, hb, hml, hown, hts⟩ (mb_X12_joins l dC dI cB cI cJ cZ cQ q _ 2 hI ⟨by decide, by decide⟩ (by exact (RI1.fr hp0 hj442 rfl rfl)) (CI.fr hcCI hj442 rfl rfl) (SP.fr hp4 hj442 rfl rfl)) (cwV 1 hts (goodV (wl_in_2 _ (List.mem_of_getElem? (i := 10) rfl)) (wl_in_2 _ (List.mem_of_getElem? (i := 11) rfl)) (wl_in_2 _ (List.mem_of_getElem? (i := 12) rfl)) (wl_in_0 _ (List.mem_of_getElem? (i := 8) rfl)) (wl_in_1 _ (List.mem_of_getElem? (i := 34) rfl))) rfl rfl rfl (by decide +kernel) ⟨Nat.le_of_ble_eq_true rfl, Nat.le_of_ble_eq_true rfl⟩) hK hDD hA0 hP hS 0 12 wm0 rfl rfl hl.1 (Nat.le_of_ble_eq_true rfl) dX12_goesOn_343 (fun A499 H locs hw500 hP hS => ?_)
      have ghw500 : q_X12_joins 2 A443 A499 := hw500
      obtain ⟨_, hI, hf501, hw500⟩ := hw500
      obtain ⟨hc502, hw500⟩ := hw500
      obtain ⟨hc503, hw500⟩ := hw500
      have e_A443_53 : A443 0 53 = (A 0 53) := (hj442.2 53 rfl)
      have e_A499_53 : A499 0 53 = (A 0 53) := (hf501.2 53 rfl).trans e_A443_53
      have r_A499_0_56 : (0 : Int) ≤ (A499 0 56) ∧ (A499 0 56) ≤ 500 := hI 0 56
      have hj1 := hw500.1
      have hj2 := Hd.mk hw500.2
      clear hw500
      have hIj := hI
      have hrj := RI.room hj1 hIj
      have e_A499_3 : A499 0 3 = (A 0 3) := (hf501.2 3 rfl).trans e_A443_3
      have e_A443_4 : A443 0 4 = (A 0 4) := (hj442.2 4 rfl)
      have e_A499_4 : A499 0 4 = (A 0 4) := (hf501.2 4 rfl).trans e_A443_4
      have e_A443_5 : A443 0 5 = (A 0 5) := (hj442.2 5 rfl)
      have e_A499_5 : A499 0 5 = (A 0 5) := (hf501.2 5 rfl).trans e_A443_5
      have e_A499_7 : A499 0 7 = (A 0 7) := (hf501.2 7 rfl).trans e_A443_7
      have e_A499_8 : A499 0 8 = (A443 0 8) := (hf501.2 8 rfl)
      have e_A443_47 : A443 0 47 = (A 0 47) := (hj442.2 47 rfl)
      have e_A499_47 : A499 0 47 = (A 0 47) := (hf501.2 47 rfl).trans e_A443_47
      have e_A443_54 : A443 0 54 = (A 0 54) := (hj442.2 54 rfl)
      have e_A499_54 : A499 0 54 = (A 0 54) := (hf501.2 54 rfl).trans e_A443_54
      have r_A499_0_46 : (0 : Int) ≤ (A499 0 46) ∧ (A499 0 46) ≤ 1600 := hI 0 46
      refine lv_aload_n hx hb dX12_goesOn_346 rfl (lv_at hl 1 rfl) ?_
      refine lv_iload hx hb dX12_goesOn_347 (lv_at hl 0 rfl) ?_
      refine lv_if_eq (tgt := 357) hx hb dX12_goesOn_349 (by decide) (fun c504 => False.elim (by have c504 : z445 = 0 := (i_eq0 (rb rz445 (by decide) (by decide))).mp c504; omega)) (fun _ => ?_)
      refine lv_bipush (v := iI 20) hx hb dX12_goesOn_352 (by decide +kernel) ?_
      refine lv_goto (tgt := 359) hx hb dX12_goesOn_354 (by decide) ?_
      refine x_callv (As := [.int (iI 20)]) (rest := []) ⟨hx, hb, hml, hown, hts⟩ (mb_X12_holdsBack l dC dI cB cI cJ cZ cQ q _ 20 hI ⟨by decide, by decide⟩ (by omega)) (cwV 1 hts (goodV (wl_in_2 _ (List.mem_of_getElem? (i := 2) rfl)) (wl_in_2 _ (List.mem_of_getElem? (i := 3) rfl)) (wl_in_2 _ (List.mem_of_getElem? (i := 4) rfl)) (wl_in_0 _ (List.mem_of_getElem? (i := 8) rfl)) (wl_in_1 _ (List.mem_of_getElem? (i := 44) rfl))) rfl rfl rfl (by decide +kernel) ⟨Nat.le_of_ble_eq_true rfl, Nat.le_of_ble_eq_true rfl⟩) hK hDD hA0 hP hS 0 12 wm0 rfl rfl hl.1 (Nat.le_of_ble_eq_true rfl) dX12_goesOn_359 (fun A505 H locs hw506 hP hS => ?_)
      have ghw506 : q_X12_holdsBack 20 A499 A505 := hw506
      obtain ⟨_, hI, hf507, hw506⟩ := hw506
      have r_A505_0_56 : (0 : Int) ≤ (A505 0 56) ∧ (A505 0 56) ≤ 500 := hI 0 56
      refine lv_aload_n hx hb dX12_goesOn_362 rfl (lv_at hl 1 rfl) ?_
      refine va_get (D := (dC, dI)) (ci := 12) (v := .ref (q 36)) (C := RX12) (T := TX12) (N := 85) hx hb hts hiX12 hown hK hP 0 wm0 rfl 49 (by decide) (hts _ (List.mem_cons_of_mem _ (wl_in_1 _ (List.mem_of_getElem? (i := 47) rfl)))) (fun _ h9 => h9) rfl dX12_goesOn_363 ?_
      refine lv_iload_n hx hb dX12_goesOn_366 rfl (lv_at hl 2 rfl) ?_
      refine lv_iconst (v := iI 0) hx hb dX12_goesOn_367 (by decide +kernel) ?_
      refine x_iast hx hb hK hP hDD hS 36 1 wm36 rfl (by omega) (by decide) dX12_goesOn_368 ws36 (fun H locs hP hS => ?_)
      have hI := hI.st (j := 36) (i := ((A 0 53) - 1).toNat) (v := 0) (show (0 : Int) ≤ 0 ∧ 0 ≤ 2 from (by omega))
      refine lv_aload_n hx hb dX12_goesOn_369 rfl (lv_at hl 1 rfl) ?_
      refine va_get (D := (dC, dI)) (ci := 12) (v := .ref (q 37)) (C := RX12) (T := TX12) (N := 85) hx hb hts hiX12 hown hK hP 0 wm0 rfl 50 (by decide) (hts _ (List.mem_cons_of_mem _ (wl_in_1 _ (List.mem_of_getElem? (i := 48) rfl)))) (fun _ h9 => h9) rfl dX12_goesOn_370 ?_
      refine lv_iload_n hx hb dX12_goesOn_373 rfl (lv_at hl 2 rfl) ?_
      refine lv_iconst (v := iI 1) hx hb dX12_goesOn_374 (by decide +kernel) ?_
      refine x_zast hx hb hK hP hDD hS 37 3 wm37 rfl (by omega) (by decide) dX12_goesOn_375 (by omega) ws37 (fun H locs hP hS => ?_)
      have hI := hI.st (j := 37) (i := ((A 0 53) - 1).toNat) (v := 1) (show (0 : Int) ≤ 1 ∧ 1 ≤ 1 from (by omega))
      refine lv_aload_n hx hb dX12_goesOn_376 rfl (lv_at hl 1 rfl) ?_
      obtain ⟨A508, hA508⟩ : ∃ A508 : St, A508 = (stA (stA A505 36 ((A 0 53) - 1).toNat 0) 37 ((A 0 53) - 1).toNat 1) := ⟨_, rfl⟩
      rw [← hA508] at hP hI
      have e_A505_4 : A505 0 4 = (A 0 4) := (hf507.2 4 rfl).trans e_A499_4
      have e_A508_4 : A508 0 4 = (A 0 4) := by rw [hA508]; exact e_A505_4
      have e_A505_5 : A505 0 5 = (A 0 5) := (hf507.2 5 rfl).trans e_A499_5
      have e_A508_5 : A508 0 5 = (A 0 5) := by rw [hA508]; exact e_A505_5
      have e_A505_8 : A505 0 8 = (A443 0 8) := (hf507.2 8 rfl).trans e_A499_8
      have e_A508_8 : A508 0 8 = (A443 0 8) := by rw [hA508]; exact e_A505_8
      refine x_callv (As := []) (rest := []) ⟨hx, hb, hml, hown, hts⟩ (mb_X12_ahead l dC dI cB cI cJ cZ cQ q _ hI) (cwV 0 hts (goodV (wl_in_0 _ (List.mem_of_getElem? (i := 40) rfl)) (wl_in_0 _ (List.mem_of_getElem? (i := 41) rfl)) (wl_in_0 _ (List.mem_of_getElem? (i := 42) rfl)) (wl_in_0 _ (List.mem_of_getElem? (i := 8) rfl)) (wl_in_0 _ (List.mem_of_getElem? (i := 20) rfl))) rfl rfl rfl (by decide +kernel) ⟨Nat.le_of_ble_eq_true rfl, Nat.le_of_ble_eq_true rfl⟩) hK hDD hA0 hP hS 0 12 wm0 rfl rfl hl.1 (Nat.le_of_ble_eq_true rfl) dX12_goesOn_377 (fun A509 H locs hw510 hP hS => ?_)
      have ghw510 : q_X12_ahead A508 A509 := hw510
      obtain ⟨_, hI, hf511, hw510⟩ := hw510
      have r_A509_0_3 : (0 : Int) ≤ (A509 0 3) ∧ (A509 0 3) ≤ 3 := hI 0 3
      have r_A509_0_4 : (0 : Int) ≤ (A509 0 4) ∧ (A509 0 4) ≤ 1600 := hI 0 4
      have r_A509_0_5 : (0 : Int) ≤ (A509 0 5) ∧ (A509 0 5) ≤ 1600 := hI 0 5
      have r_A509_0_8 : (0 : Int) ≤ (A509 0 8) ∧ (A509 0 8) ≤ 5 := hI 0 8
      have hw510x := hw510.1
      have hw510y := hw510.2.1
      replace hw510 := Hd.mk hw510
      refine lv_aload_n hx hb dX12_goesOn_380 rfl (lv_at hl 1 rfl) ?_
      refine lv_iconst (v := iI 0) hx hb dX12_goesOn_381 (by decide +kernel) ?_
      refine x_put (D := (dC, dI)) (ci := 12) (v := .int (iI 0)) (ty := .boolean) (C := RX12) (T := TX12) (N := 85) hx hb hts hiX12 tyX12 tyX12_ok nmX12 hown hK hP hDD hS 0 wm0 rfl 57 (by decide) (hts _ (List.mem_cons_of_mem _ (wl_in_2 _ (List.mem_of_getElem? (i := 9) rfl)))) (fun _ h9 => h9) rfl (by decide +kernel) (by decide +kernel) rfl (Nat.le_of_ble_eq_true rfl) dX12_goesOn_382 (wf57 (v := 0)) (fun H locs hP hS => ?_)
      have hI := hI.st (j := 0) (i := 57) (v := 0) (show (0 : Int) ≤ 0 ∧ 0 ≤ 1 from (by omega))
      refine lv_iconst (v := iI 1) hx hb dX12_goesOn_385 (by decide +kernel) ?_
      obtain ⟨A512, hA512⟩ : ∃ A512 : St, A512 = (stA A509 0 57 0) := ⟨_, rfl⟩
      rw [← hA512] at hP hI
      have e_A512_4 : A512 0 4 = (A509 0 4) := by rw [hA512]; exact rfl
      have e_A512_5 : A512 0 5 = (A509 0 5) := by rw [hA512]; exact rfl
      have e_A512_8 : A512 0 8 = (A509 0 8) := by rw [hA512]; exact rfl
      have e_A505_46 : A505 0 46 = (A499 0 46) := (hf507.2 46 rfl)
      have e_A508_46 : A508 0 46 = (A499 0 46) := by rw [hA508]; exact e_A505_46
      have e_A509_46 : A509 0 46 = (A499 0 46) := (hf511.2 46 rfl).trans e_A508_46
      have e_A512_46 : A512 0 46 = (A499 0 46) := by rw [hA512]; exact e_A509_46
      have e_A505_47 : A505 0 47 = (A 0 47) := (hf507.2 47 rfl).trans e_A499_47
      have e_A508_47 : A508 0 47 = (A 0 47) := by rw [hA508]; exact e_A505_47
      have e_A509_47 : A509 0 47 = (A 0 47) := (hf511.2 47 rfl).trans e_A508_47
      have e_A512_47 : A512 0 47 = (A 0 47) := by rw [hA512]; exact e_A509_47
      have e_A512_57 : A512 0 57 = 0 := by rw [hA512]; rfl
      have ca513 : A443 35 = A 35 := (hj442.1 35 (by decide) rfl)
      have ca514 : A499 35 = A 35 := (hf501.1 35 (by decide) rfl).trans ca513
      have ca515 : A512 1 = A509 1 := by rw [hA512]; exact rfl
      have e_A512_3 : A512 0 3 = (A509 0 3) := by rw [hA512]; exact rfl
      have e_A512_7 : A512 0 7 = (A509 0 7) := by rw [hA512]; exact rfl
      have hlt := RI.lt hp0 (by omega)
      have ca516 : A508 40 = A505 40 := by rw [hA508]; exact rfl
      have ca517 : A509 40 = A505 40 := (hf511.1 40 (by decide) rfl).trans ca516
      have ca518 : A512 40 = A505 40 := by rw [hA512]; exact ca517
      have ca519 : A505 37 = A499 37 := (hf507.1 37 (by decide) rfl)
      have e37 : A508 37 = up (A499 37) ((A 0 53) - 1).toNat 1 := by rw [hA508]; show up (A505 37) _ _ = _; rw [ca519]
      have ca520 : A509 37 = A508 37 := (hf511.1 37 (by decide) rfl)
      have ca521 : A512 37 = A508 37 := by rw [hA512]; exact ca520
      have e_A508_56 : A508 0 56 = (A505 0 56) := by rw [hA508]; exact rfl
      have e_A509_56 : A509 0 56 = (A505 0 56) := (hf511.2 56 rfl).trans e_A508_56
      have e_A512_56 : A512 0 56 = (A505 0 56) := by rw [hA512]; exact e_A509_56
      have ca522 : A505 29 = A499 29 := (hf507.1 29 (by decide) rfl)
      have ca523 : A508 29 = A499 29 := by rw [hA508]; exact ca522
      have ca524 : A509 29 = A499 29 := (hf511.1 29 (by decide) rfl).trans ca523
      have ca525 : A512 29 = A499 29 := by rw [hA512]; exact ca524
      have ca526 : A505 31 = A499 31 := (hf507.1 31 (by decide) rfl)
      have ca527 : A508 31 = A499 31 := by rw [hA508]; exact ca526
      have ca528 : A509 31 = A499 31 := (hf511.1 31 (by decide) rfl).trans ca527
      have ca529 : A512 31 = A499 31 := by rw [hA512]; exact ca528
      have ca530 : A505 33 = A499 33 := (hf507.1 33 (by decide) rfl)
      have ca531 : A508 33 = A499 33 := by rw [hA508]; exact ca530
      have ca532 : A509 33 = A499 33 := (hf511.1 33 (by decide) rfl).trans ca531
      have ca533 : A512 33 = A499 33 := by rw [hA512]; exact ca532
      have ca534 : A505 35 = A499 35 := (hf507.1 35 (by decide) rfl)
      have ca535 : A508 35 = A499 35 := by rw [hA508]; exact ca534
      have ca536 : A509 35 = A499 35 := (hf511.1 35 (by decide) rfl).trans ca535
      have ca537 : A512 35 = A499 35 := by rw [hA512]; exact ca536
      have ca538 : A505 39 = A499 39 := (hf507.1 39 (by decide) rfl)
      have ca539 : A508 39 = A499 39 := by rw [hA508]; exact ca538
      have ca540 : A509 39 = A499 39 := (hf511.1 39 (by decide) rfl).trans ca539
      have ca541 : A512 39 = A499 39 := by rw [hA512]; exact ca540
      have e_A505_53 : A505 0 53 = (A 0 53) := (hf507.2 53 rfl).trans e_A499_53
      have e_A508_53 : A508 0 53 = (A 0 53) := by rw [hA508]; exact e_A505_53
      have e_A509_53 : A509 0 53 = (A 0 53) := (hf511.2 53 rfl).trans e_A508_53
      have e_A512_53 : A512 0 53 = (A 0 53) := by rw [hA512]; exact e_A509_53
      have e_A505_54 : A505 0 54 = (A 0 54) := (hf507.2 54 rfl).trans e_A499_54
      have e_A508_54 : A508 0 54 = (A 0 54) := by rw [hA508]; exact e_A505_54
      have e_A509_54 : A509 0 54 = (A 0 54) := (hf511.2 54 rfl).trans e_A508_54
      have e_A512_54 : A512 0 54 = (A 0 54) := by rw [hA512]; exact e_A509_54
      have ca542 : A505 36 = A499 36 := (hf507.1 36 (by decide) rfl)
      have e36 : A508 36 = up (A499 36) ((A 0 53) - 1).toNat 0 := by rw [hA508]; show up (A505 36) _ _ = _; rw [ca542]
      have ca543 : A509 36 = A508 36 := (hf511.1 36 (by decide) rfl)
      have ca544 : A512 36 = A508 36 := by rw [hA512]; exact ca543
      have ca545 : A505 39 = A499 39 := (hf507.1 39 (by decide) rfl)
      have ca546 : A508 39 = A499 39 := by rw [hA508]; exact ca545
      have ca547 : A509 39 = A499 39 := (hf511.1 39 (by decide) rfl).trans ca546
      have ca548 : A512 39 = A499 39 := by rw [hA512]; exact ca547
      exact RET 1 _ _ _ _ _ ⟨hk6 _ _ (u_d_X12_goesOn_6 ⟨hIv, (Or.inl ⟨c444, ⟨z445, ghw447, (Or.inr ⟨c448, ⟨A499, ghw500, ⟨A505, ghw506, ⟨A508, hA508, ⟨A509, ghw510, ⟨A512, hA512, ⟨rfl, rfl⟩⟩⟩⟩⟩⟩⟩)⟩⟩)⟩), hI, fr_def hA512 (fr.sf (fr.trans (fr_def hA508 (fr.st (fr.st (fr.trans (fr.trans (fr.trans (fr.rf) hj442 rfl rfl) hf501 rfl rfl) hf507 rfl rfl) (by decide) rfl) (by decide) rfl)) hf511 rfl rfl) rfl), (CI.fr (CI.fr (CI.fr (CI.fr hc502 hf507 rfl rfl) (fr_def hA508 (fr.st (fr.st (fr.rf (M := [36, 37]) (N := [])) (by decide) rfl) (by decide) rfl)) rfl rfl) hf511 rfl rfl) (fr_def hA512 (fr.sf (fr.rf (M := []) (N := [57])) rfl)) rfl rfl), ⟨by decide, Hd.mk (fun h0 => ⟨fun _ => ⟨by rw [e_A512_57]; exact RI.op (x := 20) (r37 := up (A499 37) ((A 0 53) - 1).toNat 1) hj1 hIj (by rw [e_A499_3]; rw [hs1]; decide) (by decide) (hj2.out.imp id (fun t => by rw [show rk 20 = 2 by decide]; exact t)) (fun i hi => up_lo e_A499_53 hi) (fun _ => by decide) ⟨ca525, ca529, ca533, ca537, (ca521.trans e37), ca541, (ca518.trans hw506.2), e_A512_46, (e_A512_47.trans e_A499_47.symm), (e_A512_53.trans e_A499_53.symm), (e_A512_54.trans e_A499_54.symm), (e_A512_56.trans hw506.1)⟩ (by rw [← (e_A508_5.trans e_A499_5.symm), e_A512_4]; exact hw510x) (by rw [e_A512_4, e_A512_5]; exact hw510y) (LX.of ca515 e_A512_3 e_A512_4 e_A512_5 e_A512_7 hw510.out.2.2.1), ⟨(PR.fr (PR.fr (PR.fr (PR.fr (PR.fr (PR.fr hp2 hj442 rfl rfl) hf501 rfl rfl) hf507 rfl rfl) (fr_def hA508 (fr.st (fr.st (fr.rf (M := [36, 37]) (N := [])) (by decide) rfl) (by decide) rfl)) rfl rfl) hf511 rfl rfl) (fr_def hA512 (fr.sf (fr.rf (M := []) (N := [57])) rfl)) rfl rfl), SP.push (x := 20) (ph := 0) (r36 := up (A499 36) ((A 0 53) - 1).toNat 0) hc503 hIj hj1.2.1 (RI.deep hj1 hIj).1 (ca544.trans e36) (fun i hi => up_lo e_A499_53 hi) (by rw [e_A499_53, up_same]) ca548 (ca518.trans hw506.2) (e_A512_53.trans e_A499_53.symm) (e_A512_56.trans hw506.1) ((hj2.out.imp id (fun t => by rw [show rk 20 = 2 by decide]; exact t)).imp id Int.le_of_lt) (fun _ => ⟨by decide, Or.inr (by decide)⟩)⟩, by omega⟩, fun h => absurd h (by decide)⟩)⟩⟩ hP hS dX12_goesOn_386
  · have c444 : ¬ (A443 0 8) ≤ 0 := mt (i_le0 (rb r_A443_0_8 (by decide) (by decide))).mpr c444
    refine lv_iconst (v := iI 0) hx hb dX12_goesOn_321 (by decide +kernel) ?_
    have e_A443_4 : A443 0 4 = (A 0 4) := (hj442.2 4 rfl)
    have e_A443_5 : A443 0 5 = (A 0 5) := (hj442.2 5 rfl)
    have e_A443_46 : A443 0 46 = (A 0 46) := (hj442.2 46 rfl)
    have e_A443_47 : A443 0 47 = (A 0 47) := (hj442.2 47 rfl)
    have e_A443_57 : A443 0 57 = (A 0 57) := (hj442.2 57 rfl)
    have r_A_0_57 : (0 : Int) ≤ (A 0 57) ∧ (A 0 57) ≤ 1 := by rw [← e_A443_57]; exact hI 0 57
    exact RET 0 _ _ _ _ _ ⟨hk6 _ _ (u_d_X12_goesOn_6 ⟨hIv, (Or.inr ⟨c444, ⟨rfl, rfl⟩⟩)⟩), hI, fr.trans (fr.rf) hj442 rfl rfl, (CI.fr hcCI hj442 rfl rfl), ⟨by decide, Hd.mk (fun h => absurd h (by omega))⟩⟩ hP hS dX12_goesOn_322
set_option maxHeartbeats 4000000 in
set_option maxRecDepth 100000 in
theorem mb_X12_goesOn_c296 (l : Launch) (dC : Nat → ClassId) (dI : Nat → Nat → Nat) (cB cI cJ cZ cQ : ClassId) (q : Nat → Nat) (A : St) (hI : IM A) (hp0 : RI 1 A) (hp1 : A 0 8 = 0) (hp2 : PR A) (hp3 : A 0 57 = 1) (hp4 : SP A) (hcCI : CI A) (p : Program) (e : Env) (s : State) (m : MethodId) (below : List Frame) (meth : Method) (c : Code) (Q : State → Prop) (AS : Nat → Prop) (hx : p.tables.exec = Jvm.exec) (hb : c.code = cX12_goesOn) (hml : c.maxLocals = 5) (hown : s.vm.findClass RX12 = some m.cls) (hts : ∀ w ∈ ws_mb_X12_goesOn, w.before [.ref (q 0)].toArray s = true) (hK : va_K (dC, dI) vwCl (tyA cB cI cJ cZ cQ) s) (hDD : ∀ A', va_D AS (WM cI cJ cZ q A')) (hA0 : ∀ b : Nat, s.heap.size ≤ b → AS b) (RET : ∀ (z : Int) (u : St) (H : Heap) (locs : List Loc) (pc : Nat) (ls : Array Slot), ((fun z u => r_X12_goesOn A z u ∧ IM u ∧ fr [33, 34, 35, 36, 37, 40] [3, 4, 5, 6, 7, 8, 9, 46, 53, 54, 56, 57] A u ∧ CI u ∧ ((0 ≤ z ∧ z ≤ 1) ∧ (Hd (u 0 8 = 0 → (z = 1 → RI (u 0 57) u ∧ (PR u ∧ SP u) ∧ A 0 4 + 1 ≤ u 0 4) ∧ (z = 0 → DP (u 33) (sA u) (1600 * u 0 47 + u 0 46) 1 ∧ CB u ∧ A 0 4 ≤ u 0 4))))) z u) → va_P (dC, dI) vwCl (WM cI cJ cZ q u) H → va_S AS s.heap H locs → decode cX12_goesOn pc = .ok (.ireturn, 1) → W p l e (headSpec ws_mb_X12_goesOn ({ frames := 2, cells := 0, slots := 0, locals := 47 } : Room)).room s m [.ref (q 0)].toArray below meth c H locs 0 0 Q (F0 m pc ls [.int (iI z)])) (H : Heap) (locs : List Loc) (ls : Array Slot) (z1 z2 : Int) (rz1 : (0 : Int) ≤ z1 ∧ z1 ≤ 5) (rz2 : (0 : Int) ≤ z2 ∧ z2 ≤ 1) (hz1 : z1 = A 35 ((A 0 53) - 1).toNat) (hs1 : A 0 3 = 1) (hk5 : ∀ (z : Int) (u : St), (d_X12_goesOn_5 A z u z1 z2) → r_X12_goesOn A z u) (hP : va_P (dC, dI) vwCl (WM cI cJ cZ q A) H) (hS : va_S AS s.heap H locs) (hl : lv_has ls 5 [(0, .ref (q 0)), (1, .int (iI ((A 0 53) - 1))), (2, .int (iI z1)), (3, .int (iI z2))]) : W p l e (headSpec ws_mb_X12_goesOn ({ frames := 2, cells := 0, slots := 0, locals := 47 } : Room)).room s m [.ref (q 0)].toArray below meth c H locs 0 0 Q (F0 m 296 ls []) := by
  have hiX12 : ∀ w ∈ u_ws RX12 TX12 85, w ∈ ws_mb_X12_goesOn := fun w h => List.mem_cons_of_mem _ (wx_lay w h)
  have hI0 := hI
  have hdp := RI.deep hp0 hI0
  have hrm := RI.room hp0 hI0
  have r_A_0_3 : (0 : Int) ≤ (A 0 3) ∧ (A 0 3) ≤ 3 := hI 0 3
  have r_A_0_4 : (0 : Int) ≤ (A 0 4) ∧ (A 0 4) ≤ 1600 := hI 0 4
  have r_A_0_5 : (0 : Int) ≤ (A 0 5) ∧ (A 0 5) ≤ 1600 := hI 0 5
  have r_A_0_7 : (-9223372036854775808 : Int) ≤ (A 0 7) ∧ (A 0 7) ≤ 9223372036854775807 := hI 0 7
  have r_A_0_8 : (0 : Int) ≤ (A 0 8) ∧ (A 0 8) ≤ 5 := hI 0 8
  have r_A_0_46 : (0 : Int) ≤ (A 0 46) ∧ (A 0 46) ≤ 1600 := hI 0 46
  have r_A_0_47 : (0 : Int) ≤ (A 0 47) ∧ (A 0 47) ≤ 1 := hI 0 47
  have r_A_0_53 : (0 : Int) ≤ (A 0 53) ∧ (A 0 53) ≤ 20 := hI 0 53
  have r_A_0_54 : (0 : Int) ≤ (A 0 54) ∧ (A 0 54) ≤ 8 := hI 0 54
  have r_A_0_56 : (0 : Int) ≤ (A 0 56) ∧ (A 0 56) ≤ 500 := hI 0 56
  have hop := hp0.1
  refine lv_aload_n hx hb dX12_goesOn_296 rfl (lv_at hl 0 rfl) ?_
  refine va_get (D := (dC, dI)) (ci := 12) (v := .ref (q 36)) (C := RX12) (T := TX12) (N := 85) hx hb hts hiX12 hown hK hP 0 wm0 rfl 49 (by decide) (hts _ (List.mem_cons_of_mem _ (wl_in_1 _ (List.mem_of_getElem? (i := 47) rfl)))) (fun _ h9 => h9) rfl dX12_goesOn_297 ?_
  refine lv_iload_n hx hb dX12_goesOn_300 rfl (lv_at hl 1 rfl) ?_
  refine x_iald hx hb hK hP 36 1 wm36 rfl (by omega) (by decide) dX12_goesOn_301 (fun z436 hz436 => ?_)
  have rz436 : (0 : Int) ≤ z436 ∧ z436 ≤ 2 := by rw [hz436]; exact hI 36 _
  have gz436 := Hd.mk hz436
  have hz436 : z436 = A 36 ((A 0 53) - 1).toNat := hz436
  refine lv_if_ne (tgt := 314) hx hb dX12_goesOn_302 (by decide) (fun c437 => ?_) (fun c437 => ?_)
  · have c437 : ¬ z436 = 0 := mt (i_eq0 (rb rz436 (by decide) (by decide))).mpr c437
    exact mb_X12_goesOn_c314 l dC dI cB cI cJ cZ cQ q A hI0 hp0 hp1 hp2 hp3 hp4 hcCI p e s m below meth c Q AS hx hb hml hown hts hK hDD hA0 RET _ _ _ z1 z2 (by omega) (by omega) hz1 (by omega) _ hI (fr.rf) (fun zq uq hq => hk5 _ _ (u_d_X12_goesOn_5 ⟨z436, gz436.out, (Or.inl ⟨c437, hq⟩)⟩)) hP hS (lv_sub hl [0, 1, 2, 3] rfl)
  · have c437 : z436 = 0 := (i_eq0 (rb rz436 (by decide) (by decide))).mp c437
    refine lv_aload_n hx hb dX12_goesOn_305 rfl (lv_at hl 0 rfl) ?_
    refine lv_iconst (v := iI 1) hx hb dX12_goesOn_306 (by decide +kernel) ?_
    refine lv_aload_n hx hb dX12_goesOn_307 rfl (lv_at hl 0 rfl) ?_
    refine va_get (D := (dC, dI)) (ci := 12) (v := .int (iI (A 0 4))) (C := RX12) (T := TX12) (N := 85) hx hb hts hiX12 hown hK hP 0 wm0 rfl 4 (by decide) (hts _ (List.mem_cons_of_mem _ (wl_in_0 _ (List.mem_of_getElem? (i := 23) rfl)))) (fun _ h9 => h9) rfl dX12_goesOn_308 ?_
    refine x_callv (As := [.int (iI 1), .int (iI (A 0 4))]) (rest := []) ⟨hx, hb, hml, hown, hts⟩ (mc_X12_blame l dC dI cB cI cJ cZ cQ q _ 1 (A 0 4) hI ⟨by decide, by decide⟩ r_A_0_4) (cwV 2 hts (goodV (wl_in_0 _ (List.mem_of_getElem? (i := 31) rfl)) (wl_in_0 _ (List.mem_of_getElem? (i := 32) rfl)) (wl_in_0 _ (List.mem_of_getElem? (i := 33) rfl)) (wl_in_0 _ (List.mem_of_getElem? (i := 8) rfl)) (wl_in_0 _ (List.mem_of_getElem? (i := 15) rfl))) rfl rfl rfl (by decide +kernel) ⟨Nat.le_of_ble_eq_true rfl, Nat.le_of_ble_eq_true rfl⟩) hK hDD hA0 hP hS 0 12 wm0 rfl rfl hl.1 (Nat.le_of_ble_eq_true rfl) dX12_goesOn_311 (fun A439 H locs hw440 hP hS => ?_)
    have ghw440 : q_X12_blame 1 (A 0 4) A A439 := hw440
    obtain ⟨_, hI, hf441, hw440⟩ := hw440
    have r_A439_0_8 : (0 : Int) ≤ (A439 0 8) ∧ (A439 0 8) ≤ 5 := hI 0 8
    exact mb_X12_goesOn_c314 l dC dI cB cI cJ cZ cQ q A hI0 hp0 hp1 hp2 hp3 hp4 hcCI p e s m below meth c Q AS hx hb hml hown hts hK hDD hA0 RET _ _ _ z1 z2 (by omega) (by omega) hz1 (by omega) _ hI (fr.trans (fr.rf) hf441 rfl rfl) (fun zq uq hq => hk5 _ _ (u_d_X12_goesOn_5 ⟨z436, gz436.out, (Or.inr ⟨c437, ⟨A439, ghw440, hq⟩⟩)⟩)) hP hS (lv_sub hl [0, 1, 2, 3] rfl)
set_option maxHeartbeats 4000000 in
set_option maxRecDepth 100000 in
theorem mb_X12_goesOn_c511 (l : Launch) (dC : Nat → ClassId) (dI : Nat → Nat → Nat) (cB cI cJ cZ cQ : ClassId) (q : Nat → Nat) (A : St) (hI : IM A) (hp0 : RI 1 A) (hp1 : A 0 8 = 0) (hp2 : PR A) (hp3 : A 0 57 = 1) (hp4 : SP A) (hcCI : CI A) (p : Program) (e : Env) (s : State) (m : MethodId) (below : List Frame) (meth : Method) (c : Code) (Q : State → Prop) (AS : Nat → Prop) (hx : p.tables.exec = Jvm.exec) (hb : c.code = cX12_goesOn) (hml : c.maxLocals = 5) (hown : s.vm.findClass RX12 = some m.cls) (hts : ∀ w ∈ ws_mb_X12_goesOn, w.before [.ref (q 0)].toArray s = true) (hK : va_K (dC, dI) vwCl (tyA cB cI cJ cZ cQ) s) (hDD : ∀ A', va_D AS (WM cI cJ cZ q A')) (hA0 : ∀ b : Nat, s.heap.size ≤ b → AS b) (RET : ∀ (z : Int) (u : St) (H : Heap) (locs : List Loc) (pc : Nat) (ls : Array Slot), ((fun z u => r_X12_goesOn A z u ∧ IM u ∧ fr [33, 34, 35, 36, 37, 40] [3, 4, 5, 6, 7, 8, 9, 46, 53, 54, 56, 57] A u ∧ CI u ∧ ((0 ≤ z ∧ z ≤ 1) ∧ (Hd (u 0 8 = 0 → (z = 1 → RI (u 0 57) u ∧ (PR u ∧ SP u) ∧ A 0 4 + 1 ≤ u 0 4) ∧ (z = 0 → DP (u 33) (sA u) (1600 * u 0 47 + u 0 46) 1 ∧ CB u ∧ A 0 4 ≤ u 0 4))))) z u) → va_P (dC, dI) vwCl (WM cI cJ cZ q u) H → va_S AS s.heap H locs → decode cX12_goesOn pc = .ok (.ireturn, 1) → W p l e (headSpec ws_mb_X12_goesOn ({ frames := 2, cells := 0, slots := 0, locals := 47 } : Room)).room s m [.ref (q 0)].toArray below meth c H locs 0 0 Q (F0 m pc ls [.int (iI z)])) (H : Heap) (locs : List Loc) (ls : Array Slot) (z1 : Int) (rz1 : (2 : Int) ≤ z1 ∧ z1 ≤ 5) (hz1 : z1 = A 35 ((A 0 53) - 1).toNat) (A576 : St) (hIv : IM A576) (hj575 : fr [] [8, 9] A A576) (f577 : Hd ((A576 0 8) = 0 → (A576 0 3) = 3)) (hk10 : ∀ (z : Int) (u : St), (d_X12_goesOn_10 A z u z1 A576) → r_X12_goesOn A z u) (hP : va_P (dC, dI) vwCl (WM cI cJ cZ q A576) H) (hS : va_S AS s.heap H locs) (hl : lv_has ls 5 [(0, .ref (q 0)), (1, .int (iI ((A 0 53) - 1))), (2, .int (iI z1))]) : W p l e (headSpec ws_mb_X12_goesOn ({ frames := 2, cells := 0, slots := 0, locals := 47 } : Room)).room s m [.ref (q 0)].toArray below meth c H locs 0 0 Q (F0 m 511 ls []) := by
  have hiX12 : ∀ w ∈ u_ws RX12 TX12 85, w ∈ ws_mb_X12_goesOn := fun w h => List.mem_cons_of_mem _ (wx_lay w h)
  have hI0 := hI
  have hdp := RI.deep hp0 hI0
  have hrm := RI.room hp0 hI0
  have r_A_0_3 : (0 : Int) ≤ (A 0 3) ∧ (A 0 3) ≤ 3 := hI 0 3
  have r_A_0_4 : (0 : Int) ≤ (A 0 4) ∧ (A 0 4) ≤ 1600 := hI 0 4
  have r_A_0_5 : (0 : Int) ≤ (A 0 5) ∧ (A 0 5) ≤ 1600 := hI 0 5
  have r_A_0_7 : (-9223372036854775808 : Int) ≤ (A 0 7) ∧ (A 0 7) ≤ 9223372036854775807 := hI 0 7
  have r_A_0_8 : (0 : Int) ≤ (A 0 8) ∧ (A 0 8) ≤ 5 := hI 0 8
  have r_A_0_46 : (0 : Int) ≤ (A 0 46) ∧ (A 0 46) ≤ 1600 := hI 0 46
  have r_A_0_47 : (0 : Int) ≤ (A 0 47) ∧ (A 0 47) ≤ 1 := hI 0 47
  have r_A_0_53 : (0 : Int) ≤ (A 0 53) ∧ (A 0 53) ≤ 20 := hI 0 53
  have r_A_0_54 : (0 : Int) ≤ (A 0 54) ∧ (A 0 54) ≤ 8 := hI 0 54
  have r_A_0_56 : (0 : Int) ≤ (A 0 56) ∧ (A 0 56) ≤ 500 := hI 0 56
  have hop := hp0.1
  have hI := hIv
  refine lv_aload_n hx hb dX12_goesOn_511 rfl (lv_at hl 0 rfl) ?_
  refine va_get (D := (dC, dI)) (ci := 12) (v := .int (iI (A576 0 8))) (C := RX12) (T := TX12) (N := 85) hx hb hts hiX12 hown hK hP 0 wm0 rfl 8 (by decide) (hts _ (List.mem_cons_of_mem _ (wl_in_0 _ (List.mem_of_getElem? (i := 16) rfl)))) (fun _ h9 => h9) rfl dX12_goesOn_512 ?_
  have r_A576_0_8 : (0 : Int) ≤ (A576 0 8) ∧ (A576 0 8) ≤ 5 := hI 0 8
  refine lv_if_le (tgt := 520) hx hb dX12_goesOn_515 (by decide) (fun c578 => ?_) (fun c578 => ?_)
  · have c578 : (A576 0 8) ≤ 0 := (i_le0 (rb r_A576_0_8 (by decide) (by decide))).mp c578
    have hD2 := RI.two hp0 hI0 (by rw [← hz1]; omega)
    refine lv_aload_n hx hb dX12_goesOn_520 rfl (lv_at hl 0 rfl) ?_
    refine lv_iconst (v := iI 1) hx hb dX12_goesOn_521 (by decide +kernel) ?_
    refine x_callv (As := [.int (iI 1)]) (rest := []) ⟨hx, hb, hml, hown, hts⟩ (mb_X12_joins l dC dI cB cI cJ cZ cQ q _ 1 hI ⟨by decide, by decide⟩ (by exact (RI1.fr hp0 hj575 rfl rfl)) (CI.fr hcCI hj575 rfl rfl) (SP.fr hp4 hj575 rfl rfl)) (cwV 1 hts (goodV (wl_in_2 _ (List.mem_of_getElem? (i := 10) rfl)) (wl_in_2 _ (List.mem_of_getElem? (i := 11) rfl)) (wl_in_2 _ (List.mem_of_getElem? (i := 12) rfl)) (wl_in_0 _ (List.mem_of_getElem? (i := 8) rfl)) (wl_in_1 _ (List.mem_of_getElem? (i := 34) rfl))) rfl rfl rfl (by decide +kernel) ⟨Nat.le_of_ble_eq_true rfl, Nat.le_of_ble_eq_true rfl⟩) hK hDD hA0 hP hS 0 12 wm0 rfl rfl hl.1 (Nat.le_of_ble_eq_true rfl) dX12_goesOn_522 (fun A579 H locs hw580 hP hS => ?_)
    have ghw580 : q_X12_joins 1 A576 A579 := hw580
    obtain ⟨_, hI, hf581, hw580⟩ := hw580
    obtain ⟨hc582, hw580⟩ := hw580
    obtain ⟨hc583, hw580⟩ := hw580
    have e_A576_53 : A576 0 53 = (A 0 53) := (hj575.2 53 rfl)
    have e_A579_53 : A579 0 53 = (A 0 53) := (hf581.2 53 rfl).trans e_A576_53
    have r_A579_0_56 : (0 : Int) ≤ (A579 0 56) ∧ (A579 0 56) ≤ 500 := hI 0 56
    have hj1 := hw580.1
    have hj2 := Hd.mk hw580.2
    clear hw580
    have hIj := hI
    have hrj := RI.room hj1 hIj
    have e_A576_3 : A576 0 3 = (A 0 3) := (hj575.2 3 rfl)
    have e_A579_3 : A579 0 3 = (A 0 3) := (hf581.2 3 rfl).trans e_A576_3
    have e_A576_4 : A576 0 4 = (A 0 4) := (hj575.2 4 rfl)
    have e_A579_4 : A579 0 4 = (A 0 4) := (hf581.2 4 rfl).trans e_A576_4
    have e_A576_5 : A576 0 5 = (A 0 5) := (hj575.2 5 rfl)
    have e_A579_5 : A579 0 5 = (A 0 5) := (hf581.2 5 rfl).trans e_A576_5
    have e_A576_7 : A576 0 7 = (A 0 7) := (hj575.2 7 rfl)
    have e_A579_7 : A579 0 7 = (A 0 7) := (hf581.2 7 rfl).trans e_A576_7
    have e_A579_8 : A579 0 8 = (A576 0 8) := (hf581.2 8 rfl)
    have e_A576_47 : A576 0 47 = (A 0 47) := (hj575.2 47 rfl)
    have e_A579_47 : A579 0 47 = (A 0 47) := (hf581.2 47 rfl).trans e_A576_47
    have e_A576_54 : A576 0 54 = (A 0 54) := (hj575.2 54 rfl)
    have e_A579_54 : A579 0 54 = (A 0 54) := (hf581.2 54 rfl).trans e_A576_54
    have r_A579_0_46 : (0 : Int) ≤ (A579 0 46) ∧ (A579 0 46) ≤ 1600 := hI 0 46
    refine lv_aload_n hx hb dX12_goesOn_525 rfl (lv_at hl 0 rfl) ?_
    refine lv_dup hx hb dX12_goesOn_526 rfl ?_
    refine va_get (D := (dC, dI)) (ci := 12) (v := .int (iI (A579 0 53))) (C := RX12) (T := TX12) (N := 85) hx hb hts hiX12 hown hK hP 0 wm0 rfl 53 (by decide) (hts _ (List.mem_cons_of_mem _ (wl_in_1 _ (List.mem_of_getElem? (i := 37) rfl)))) (fun _ h9 => h9) rfl dX12_goesOn_527 ?_
    refine tp_i (y := iI (A 0 53)) (congrArg iI e_A579_53) ?_
    refine lv_iconst (v := iI 1) hx hb dX12_goesOn_530 (by decide +kernel) ?_
    refine x_subv (v := (A 0 53) - 1) hx hb dX12_goesOn_531 (by omega) ?_
    refine x_put (D := (dC, dI)) (ci := 12) (v := .int (iI ((A 0 53) - 1))) (ty := .int) (C := RX12) (T := TX12) (N := 85) hx hb hts hiX12 tyX12 tyX12_ok nmX12 hown hK hP hDD hS 0 wm0 rfl 53 (by decide) (hts _ (List.mem_cons_of_mem _ (wl_in_1 _ (List.mem_of_getElem? (i := 37) rfl)))) (fun _ h9 => h9) rfl (by decide +kernel) rfl rfl (Nat.le_of_ble_eq_true rfl) dX12_goesOn_532 (wf53 (v := (A 0 53) - 1)) (fun H locs hP hS => ?_)
    have hI := hI.st (j := 0) (i := 53) (v := (A 0 53) - 1) (show (0 : Int) ≤ (A 0 53) - 1 ∧ (A 0 53) - 1 ≤ 20 from (by omega))
    refine lv_aload_n hx hb dX12_goesOn_535 rfl (lv_at hl 0 rfl) ?_
    refine lv_dup hx hb dX12_goesOn_536 rfl ?_
    refine va_get (D := (dC, dI)) (ci := 12) (v := .int (iI (A579 0 54))) (C := RX12) (T := TX12) (N := 85) hx hb hts hiX12 hown hK hP 0 wm0 rfl 54 (by decide) (hts _ (List.mem_cons_of_mem _ (wl_in_1 _ (List.mem_of_getElem? (i := 50) rfl)))) (fun _ h9 => h9) rfl dX12_goesOn_537 ?_
    refine tp_i (y := iI (A 0 54)) (congrArg iI e_A579_54) ?_
    refine lv_iconst (v := iI 1) hx hb dX12_goesOn_540 (by decide +kernel) ?_
    refine x_subv (v := (A 0 54) - 1) hx hb dX12_goesOn_541 (by omega) ?_
    refine x_put (D := (dC, dI)) (ci := 12) (v := .int (iI ((A 0 54) - 1))) (ty := .int) (C := RX12) (T := TX12) (N := 85) hx hb hts hiX12 tyX12 tyX12_ok nmX12 hown hK hP hDD hS 0 wm0 rfl 54 (by decide) (hts _ (List.mem_cons_of_mem _ (wl_in_1 _ (List.mem_of_getElem? (i := 50) rfl)))) (fun _ h9 => h9) rfl (by decide +kernel) rfl rfl (Nat.le_of_ble_eq_true rfl) dX12_goesOn_542 (wf54 (v := (A 0 54) - 1)) (fun H locs hP hS => ?_)
    have hI := hI.st (j := 0) (i := 54) (v := (A 0 54) - 1) (show (0 : Int) ≤ (A 0 54) - 1 ∧ (A 0 54) - 1 ≤ 8 from (by omega))
    refine lv_iload_n hx hb dX12_goesOn_545 rfl (lv_at hl 2 rfl) ?_
    refine lv_iconst (v := iI 4) hx hb dX12_goesOn_546 (by decide +kernel) ?_
    obtain ⟨A584, hA584⟩ : ∃ A584 : St, A584 = (stA (stA A579 0 53 ((A 0 53) - 1)) 0 54 ((A 0 54) - 1)) := ⟨_, rfl⟩
    rw [← hA584] at hP hI
    refine lv_icmp_ne (tgt := 561) hx hb dX12_goesOn_547 (by decide) (fun c585 => ?_) (fun c585 => ?_)
    · have c585 : ¬ z1 = 4 := mt (i_eq (rb rz1 (by decide) (by decide)) ⟨by decide, by decide⟩).mpr c585
      refine lv_iload_n hx hb dX12_goesOn_561 rfl (lv_at hl 2 rfl) ?_
      refine lv_iconst (v := iI 5) hx hb dX12_goesOn_562 (by decide +kernel) ?_
      refine lv_icmp_ne (tgt := 578) hx hb dX12_goesOn_563 (by decide) (fun c586 => ?_) (fun c586 => ?_)
      · have c586 : ¬ z1 = 5 := mt (i_eq (rb rz1 (by decide) (by decide)) ⟨by decide, by decide⟩).mpr c586
        refine lv_aload_n hx hb dX12_goesOn_578 rfl (lv_at hl 0 rfl) ?_
        have e_A584_4 : A584 0 4 = (A 0 4) := by rw [hA584]; exact e_A579_4
        have e_A584_5 : A584 0 5 = (A 0 5) := by rw [hA584]; exact e_A579_5
        have e_A584_8 : A584 0 8 = (A576 0 8) := by rw [hA584]; exact e_A579_8
        refine x_callv (As := []) (rest := []) ⟨hx, hb, hml, hown, hts⟩ (mb_X12_ahead l dC dI cB cI cJ cZ cQ q _ hI) (cwV 0 hts (goodV (wl_in_0 _ (List.mem_of_getElem? (i := 40) rfl)) (wl_in_0 _ (List.mem_of_getElem? (i := 41) rfl)) (wl_in_0 _ (List.mem_of_getElem? (i := 42) rfl)) (wl_in_0 _ (List.mem_of_getElem? (i := 8) rfl)) (wl_in_0 _ (List.mem_of_getElem? (i := 20) rfl))) rfl rfl rfl (by decide +kernel) ⟨Nat.le_of_ble_eq_true rfl, Nat.le_of_ble_eq_true rfl⟩) hK hDD hA0 hP hS 0 12 wm0 rfl rfl hl.1 (Nat.le_of_ble_eq_true rfl) dX12_goesOn_579 (fun A587 H locs hw588 hP hS => ?_)
        have ghw588 : q_X12_ahead A584 A587 := hw588
        obtain ⟨_, hI, hf589, hw588⟩ := hw588
        have r_A587_0_3 : (0 : Int) ≤ (A587 0 3) ∧ (A587 0 3) ≤ 3 := hI 0 3
        have r_A587_0_4 : (0 : Int) ≤ (A587 0 4) ∧ (A587 0 4) ≤ 1600 := hI 0 4
        have r_A587_0_5 : (0 : Int) ≤ (A587 0 5) ∧ (A587 0 5) ≤ 1600 := hI 0 5
        have r_A587_0_8 : (0 : Int) ≤ (A587 0 8) ∧ (A587 0 8) ≤ 5 := hI 0 8
        have hw588x := hw588.1
        have hw588y := hw588.2.1
        replace hw588 := Hd.mk hw588
        refine lv_iconst (v := iI 1) hx hb dX12_goesOn_582 (by decide +kernel) ?_
        have e_A584_46 : A584 0 46 = (A579 0 46) := by rw [hA584]; exact rfl
        have e_A587_46 : A587 0 46 = (A579 0 46) := (hf589.2 46 rfl).trans e_A584_46
        have e_A584_47 : A584 0 47 = (A 0 47) := by rw [hA584]; exact e_A579_47
        have e_A587_47 : A587 0 47 = (A 0 47) := (hf589.2 47 rfl).trans e_A584_47
        have e_A576_57 : A576 0 57 = (A 0 57) := (hj575.2 57 rfl)
        have e_A579_57 : A579 0 57 = (A 0 57) := (hf581.2 57 rfl).trans e_A576_57
        have e_A584_57 : A584 0 57 = (A 0 57) := by rw [hA584]; exact e_A579_57
        have e_A587_57 : A587 0 57 = (A 0 57) := (hf589.2 57 rfl).trans e_A584_57
        have r_A_0_57 : (0 : Int) ≤ (A 0 57) ∧ (A 0 57) ≤ 1 := by rw [← e_A587_57]; exact hI 0 57
        have ca590 : A576 35 = A 35 := (hj575.1 35 (by decide) rfl)
        have ca591 : A579 35 = A 35 := (hf581.1 35 (by decide) rfl).trans ca590
        have gs := f577.out (by omega)
        have hlt := RI.lt hp0 (by omega)
        have ca592 : A584 29 = A579 29 := by rw [hA584]; exact rfl
        have ca593 : A587 29 = A579 29 := (hf589.1 29 (by decide) rfl).trans ca592
        have ca594 : A584 31 = A579 31 := by rw [hA584]; exact rfl
        have ca595 : A587 31 = A579 31 := (hf589.1 31 (by decide) rfl).trans ca594
        have ca596 : A584 33 = A579 33 := by rw [hA584]; exact rfl
        have ca597 : A587 33 = A579 33 := (hf589.1 33 (by decide) rfl).trans ca596
        have ca598 : A584 35 = A579 35 := by rw [hA584]; exact rfl
        have ca599 : A587 35 = A579 35 := (hf589.1 35 (by decide) rfl).trans ca598
        have ca600 : A584 37 = A579 37 := by rw [hA584]; exact rfl
        have ca601 : A587 37 = A579 37 := (hf589.1 37 (by decide) rfl).trans ca600
        have ca602 : A584 39 = A579 39 := by rw [hA584]; exact rfl
        have ca603 : A587 39 = A579 39 := (hf589.1 39 (by decide) rfl).trans ca602
        have ca604 : A584 40 = A579 40 := by rw [hA584]; exact rfl
        have ca605 : A587 40 = A579 40 := (hf589.1 40 (by decide) rfl).trans ca604
        have e_A584_53 : A584 0 53 = (A 0 53) - 1 := by rw [hA584]; rfl
        have e_A587_53 : A587 0 53 = (A 0 53) - 1 := (hf589.2 53 rfl).trans e_A584_53
        have e_A584_54 : A584 0 54 = (A 0 54) - 1 := by rw [hA584]; rfl
        have e_A587_54 : A587 0 54 = (A 0 54) - 1 := (hf589.2 54 rfl).trans e_A584_54
        have e_A584_56 : A584 0 56 = (A579 0 56) := by rw [hA584]; exact rfl
        have e_A587_56 : A587 0 56 = (A579 0 56) := (hf589.2 56 rfl).trans e_A584_56
        have ca606 : A584 36 = A579 36 := by rw [hA584]; exact rfl
        have ca607 : A587 36 = A579 36 := (hf589.1 36 (by decide) rfl).trans ca606
        have f53j := e_A579_53
        have ca608 : A584 39 = A579 39 := by rw [hA584]; exact rfl
        have ca609 : A587 39 = A579 39 := (hf589.1 39 (by decide) rfl).trans ca608
        have ca610 : A584 40 = A579 40 := by rw [hA584]; exact rfl
        have ca611 : A587 40 = A579 40 := (hf589.1 40 (by decide) rfl).trans ca610
        have ca612 : A584 35 = A579 35 := by rw [hA584]; exact rfl
        have ca613 : A587 35 = A579 35 := (hf589.1 35 (by decide) rfl).trans ca612
        have ca614 : A584 38 = A579 38 := by rw [hA584]; exact rfl
        have ca615 : A587 38 = A579 38 := (hf589.1 38 (by decide) rfl).trans ca614
        exact RET 1 _ _ _ _ _ ⟨hk10 _ _ (u_d_X12_goesOn_10 ⟨hIv, (Or.inl ⟨c578, ⟨A579, ghw580, ⟨A584, hA584, (Or.inl ⟨c585, (Or.inl ⟨c586, ⟨A587, ghw588, ⟨rfl, rfl⟩⟩⟩)⟩)⟩⟩⟩)⟩), hI, fr.trans (fr_def hA584 (fr.sf (fr.sf (fr.trans (fr.trans (fr.rf) hj575 rfl rfl) hf581 rfl rfl) rfl) rfl)) hf589 rfl rfl, (CI.fr (CI.fr hc582 (fr_def hA584 (fr.sf (fr.sf (fr.rf (M := []) (N := [53, 54])) rfl) rfl)) rfl rfl) hf589 rfl rfl), ⟨by decide, Hd.mk (fun h0 => ⟨fun _ => ⟨by rw [show A587 0 57 = 1 by omega]; exact RI.shut hj1 hIj (by omega) (by rw [ca591, e_A579_53, ← hz1]; omega) (RI.full hj2.out) (Or.inl ⟨by rw [ca591, e_A579_53, ← hz1]; omega, rfl, rfl⟩) ⟨ca593, ca595, ca597, ca599, ca601, ca603, ca605, e_A587_46, (e_A587_47.trans e_A579_47.symm), (by omega), (by omega), e_A587_56⟩ (by omega) (by omega) hw588.out.2.2.1, ⟨PR.pop (PR.fr (PR.fr hp2 hj575 rfl rfl) hf581 rfl rfl) ca613 (by omega) ca615, SP.close (r36 := A579 36) hc583 (by omega) (RI.full hj2.out) ca607 (fun _ _ => rfl) (Or.inl rfl) ca609 ca611 (by omega) e_A587_56⟩, by omega⟩, fun h => absurd h (by decide)⟩)⟩⟩ hP hS dX12_goesOn_583
      · have c586 : z1 = 5 := (i_eq (rb rz1 (by decide) (by decide)) ⟨by decide, by decide⟩).mp c586
        refine lv_aload_n hx hb dX12_goesOn_566 rfl (lv_at hl 0 rfl) ?_
        refine va_get (D := (dC, dI)) (ci := 12) (v := .ref (q 36)) (C := RX12) (T := TX12) (N := 85) hx hb hts hiX12 hown hK hP 0 wm0 rfl 49 (by decide) (hts _ (List.mem_cons_of_mem _ (wl_in_1 _ (List.mem_of_getElem? (i := 47) rfl)))) (fun _ h9 => h9) rfl dX12_goesOn_567 ?_
        refine lv_aload_n hx hb dX12_goesOn_570 rfl (lv_at hl 0 rfl) ?_
        have e_A584_53 : A584 0 53 = (A 0 53) - 1 := by rw [hA584]; rfl
        refine va_get (D := (dC, dI)) (ci := 12) (v := .int (iI (A584 0 53))) (C := RX12) (T := TX12) (N := 85) hx hb hts hiX12 hown hK hP 0 wm0 rfl 53 (by decide) (hts _ (List.mem_cons_of_mem _ (wl_in_1 _ (List.mem_of_getElem? (i := 37) rfl)))) (fun _ h9 => h9) rfl dX12_goesOn_571 ?_
        refine tp_i (y := iI ((A 0 53) - 1)) (congrArg iI e_A584_53) ?_
        refine lv_iconst (v := iI 1) hx hb dX12_goesOn_574 (by decide +kernel) ?_
        refine x_subv (v := (A 0 53) - 2) hx hb dX12_goesOn_575 (by omega) ?_
        refine lv_iconst (v := iI 2) hx hb dX12_goesOn_576 (by decide +kernel) ?_
        refine x_iast hx hb hK hP hDD hS 36 1 wm36 rfl (by omega) (by decide) dX12_goesOn_577 ws36 (fun H locs hP hS => ?_)
        have hI := hI.st (j := 36) (i := ((A 0 53) - 2).toNat) (v := 2) (show (0 : Int) ≤ 2 ∧ 2 ≤ 2 from (by omega))
        refine lv_aload_n hx hb dX12_goesOn_578 rfl (lv_at hl 0 rfl) ?_
        obtain ⟨A616, hA616⟩ : ∃ A616 : St, A616 = (stA A584 36 ((A 0 53) - 2).toNat 2) := ⟨_, rfl⟩
        rw [← hA616] at hP hI
        have e_A584_4 : A584 0 4 = (A 0 4) := by rw [hA584]; exact e_A579_4
        have e_A616_4 : A616 0 4 = (A 0 4) := by rw [hA616]; exact e_A584_4
        have e_A584_5 : A584 0 5 = (A 0 5) := by rw [hA584]; exact e_A579_5
        have e_A616_5 : A616 0 5 = (A 0 5) := by rw [hA616]; exact e_A584_5
        have e_A584_8 : A584 0 8 = (A576 0 8) := by rw [hA584]; exact e_A579_8
        have e_A616_8 : A616 0 8 = (A576 0 8) := by rw [hA616]; exact e_A584_8
        refine x_callv (As := []) (rest := []) ⟨hx, hb, hml, hown, hts⟩ (mb_X12_ahead l dC dI cB cI cJ cZ cQ q _ hI) (cwV 0 hts (goodV (wl_in_0 _ (List.mem_of_getElem? (i := 40) rfl)) (wl_in_0 _ (List.mem_of_getElem? (i := 41) rfl)) (wl_in_0 _ (List.mem_of_getElem? (i := 42) rfl)) (wl_in_0 _ (List.mem_of_getElem? (i := 8) rfl)) (wl_in_0 _ (List.mem_of_getElem? (i := 20) rfl))) rfl rfl rfl (by decide +kernel) ⟨Nat.le_of_ble_eq_true rfl, Nat.le_of_ble_eq_true rfl⟩) hK hDD hA0 hP hS 0 12 wm0 rfl rfl hl.1 (Nat.le_of_ble_eq_true rfl) dX12_goesOn_579 (fun A617 H locs hw618 hP hS => ?_)
        have ghw618 : q_X12_ahead A616 A617 := hw618
        obtain ⟨_, hI, hf619, hw618⟩ := hw618
        have r_A617_0_3 : (0 : Int) ≤ (A617 0 3) ∧ (A617 0 3) ≤ 3 := hI 0 3
        have r_A617_0_4 : (0 : Int) ≤ (A617 0 4) ∧ (A617 0 4) ≤ 1600 := hI 0 4
        have r_A617_0_5 : (0 : Int) ≤ (A617 0 5) ∧ (A617 0 5) ≤ 1600 := hI 0 5
        have r_A617_0_8 : (0 : Int) ≤ (A617 0 8) ∧ (A617 0 8) ≤ 5 := hI 0 8
        have hw618x := hw618.1
        have hw618y := hw618.2.1
        replace hw618 := Hd.mk hw618
        refine lv_iconst (v := iI 1) hx hb dX12_goesOn_582 (by decide +kernel) ?_
        have e_A584_46 : A584 0 46 = (A579 0 46) := by rw [hA584]; exact rfl
        have e_A616_46 : A616 0 46 = (A579 0 46) := by rw [hA616]; exact e_A584_46
        have e_A617_46 : A617 0 46 = (A579 0 46) := (hf619.2 46 rfl).trans e_A616_46
        have e_A584_47 : A584 0 47 = (A 0 47) := by rw [hA584]; exact e_A579_47
        have e_A616_47 : A616 0 47 = (A 0 47) := by rw [hA616]; exact e_A584_47
        have e_A617_47 : A617 0 47 = (A 0 47) := (hf619.2 47 rfl).trans e_A616_47
        have e_A576_57 : A576 0 57 = (A 0 57) := (hj575.2 57 rfl)
        have e_A579_57 : A579 0 57 = (A 0 57) := (hf581.2 57 rfl).trans e_A576_57
        have e_A584_57 : A584 0 57 = (A 0 57) := by rw [hA584]; exact e_A579_57
        have e_A616_57 : A616 0 57 = (A 0 57) := by rw [hA616]; exact e_A584_57
        have e_A617_57 : A617 0 57 = (A 0 57) := (hf619.2 57 rfl).trans e_A616_57
        have r_A_0_57 : (0 : Int) ≤ (A 0 57) ∧ (A 0 57) ≤ 1 := by rw [← e_A617_57]; exact hI 0 57
        have ca620 : A576 35 = A 35 := (hj575.1 35 (by decide) rfl)
        have ca621 : A579 35 = A 35 := (hf581.1 35 (by decide) rfl).trans ca620
        have gs := f577.out (by omega)
        have hlt := RI.lt hp0 (by omega)
        have ca622 : A584 29 = A579 29 := by rw [hA584]; exact rfl
        have ca623 : A616 29 = A579 29 := by rw [hA616]; exact ca622
        have ca624 : A617 29 = A579 29 := (hf619.1 29 (by decide) rfl).trans ca623
        have ca625 : A584 31 = A579 31 := by rw [hA584]; exact rfl
        have ca626 : A616 31 = A579 31 := by rw [hA616]; exact ca625
        have ca627 : A617 31 = A579 31 := (hf619.1 31 (by decide) rfl).trans ca626
        have ca628 : A584 33 = A579 33 := by rw [hA584]; exact rfl
        have ca629 : A616 33 = A579 33 := by rw [hA616]; exact ca628
        have ca630 : A617 33 = A579 33 := (hf619.1 33 (by decide) rfl).trans ca629
        have ca631 : A584 35 = A579 35 := by rw [hA584]; exact rfl
        have ca632 : A616 35 = A579 35 := by rw [hA616]; exact ca631
        have ca633 : A617 35 = A579 35 := (hf619.1 35 (by decide) rfl).trans ca632
        have ca634 : A584 37 = A579 37 := by rw [hA584]; exact rfl
        have ca635 : A616 37 = A579 37 := by rw [hA616]; exact ca634
        have ca636 : A617 37 = A579 37 := (hf619.1 37 (by decide) rfl).trans ca635
        have ca637 : A584 39 = A579 39 := by rw [hA584]; exact rfl
        have ca638 : A616 39 = A579 39 := by rw [hA616]; exact ca637
        have ca639 : A617 39 = A579 39 := (hf619.1 39 (by decide) rfl).trans ca638
        have ca640 : A584 40 = A579 40 := by rw [hA584]; exact rfl
        have ca641 : A616 40 = A579 40 := by rw [hA616]; exact ca640
        have ca642 : A617 40 = A579 40 := (hf619.1 40 (by decide) rfl).trans ca641
        have e_A616_53 : A616 0 53 = (A 0 53) - 1 := by rw [hA616]; exact e_A584_53
        have e_A617_53 : A617 0 53 = (A 0 53) - 1 := (hf619.2 53 rfl).trans e_A616_53
        have e_A584_54 : A584 0 54 = (A 0 54) - 1 := by rw [hA584]; rfl
        have e_A616_54 : A616 0 54 = (A 0 54) - 1 := by rw [hA616]; exact e_A584_54
        have e_A617_54 : A617 0 54 = (A 0 54) - 1 := (hf619.2 54 rfl).trans e_A616_54
        have e_A584_56 : A584 0 56 = (A579 0 56) := by rw [hA584]; exact rfl
        have e_A616_56 : A616 0 56 = (A579 0 56) := by rw [hA616]; exact e_A584_56
        have e_A617_56 : A617 0 56 = (A579 0 56) := (hf619.2 56 rfl).trans e_A616_56
        have ca643 : A584 36 = A579 36 := by rw [hA584]; exact rfl
        have e36 : A616 36 = up (A579 36) (A579 0 53 - 1 - 1).toNat 2 := by rw [hA616]; show up (A584 36) _ _ = _; rw [ca643, e_A579_53, show A 0 53 - 1 - 1 = A 0 53 - 2 by omega]
        have ca644 : A617 36 = A616 36 := (hf619.1 36 (by decide) rfl)
        have f53j := e_A579_53
        have ca645 : A584 39 = A579 39 := by rw [hA584]; exact rfl
        have ca646 : A616 39 = A579 39 := by rw [hA616]; exact ca645
        have ca647 : A617 39 = A579 39 := (hf619.1 39 (by decide) rfl).trans ca646
        have ca648 : A584 40 = A579 40 := by rw [hA584]; exact rfl
        have ca649 : A616 40 = A579 40 := by rw [hA616]; exact ca648
        have ca650 : A617 40 = A579 40 := (hf619.1 40 (by decide) rfl).trans ca649
        have ca651 : A584 35 = A579 35 := by rw [hA584]; exact rfl
        have ca652 : A616 35 = A579 35 := by rw [hA616]; exact ca651
        have ca653 : A617 35 = A579 35 := (hf619.1 35 (by decide) rfl).trans ca652
        have ca654 : A584 38 = A579 38 := by rw [hA584]; exact rfl
        have ca655 : A616 38 = A579 38 := by rw [hA616]; exact ca654
        have ca656 : A617 38 = A579 38 := (hf619.1 38 (by decide) rfl).trans ca655
        exact RET 1 _ _ _ _ _ ⟨hk10 _ _ (u_d_X12_goesOn_10 ⟨hIv, (Or.inl ⟨c578, ⟨A579, ghw580, ⟨A584, hA584, (Or.inl ⟨c585, (Or.inr ⟨c586, ⟨A616, hA616, ⟨A617, ghw618, ⟨rfl, rfl⟩⟩⟩⟩)⟩)⟩⟩⟩)⟩), hI, fr.trans (fr_def hA616 (fr.st (fr_def hA584 (fr.sf (fr.sf (fr.trans (fr.trans (fr.rf) hj575 rfl rfl) hf581 rfl rfl) rfl) rfl)) (by decide) rfl)) hf619 rfl rfl, (CI.fr (CI.fr (CI.fr hc582 (fr_def hA584 (fr.sf (fr.sf (fr.rf (M := []) (N := [53, 54])) rfl) rfl)) rfl rfl) (fr_def hA616 (fr.st (fr.rf (M := [36]) (N := [])) (by decide) rfl)) rfl rfl) hf619 rfl rfl), ⟨by decide, Hd.mk (fun h0 => ⟨fun _ => ⟨by rw [show A617 0 57 = 1 by omega]; exact RI.shut hj1 hIj (by omega) (by rw [ca621, e_A579_53, ← hz1]; omega) (RI.full hj2.out) (Or.inl ⟨by rw [ca621, e_A579_53, ← hz1]; omega, rfl, rfl⟩) ⟨ca624, ca627, ca630, ca633, ca636, ca639, ca642, e_A617_46, (e_A617_47.trans e_A579_47.symm), (by omega), (by omega), e_A617_56⟩ (by omega) (by omega) hw618.out.2.2.1, ⟨PR.pop (PR.fr (PR.fr hp2 hj575 rfl rfl) hf581 rfl rfl) ca653 (by omega) ca656, SP.close (r36 := up (A579 36) (A579 0 53 - 1 - 1).toNat 2) hc583 (by omega) (RI.full hj2.out) (ca644.trans e36) (fun i hi => by rw [up_ne _ _ (by omega)]) (Or.inr (up_same _ _ _)) ca647 ca650 (by omega) e_A617_56⟩, by omega⟩, fun h => absurd h (by decide)⟩)⟩⟩ hP hS dX12_goesOn_583
    · have c585 : z1 = 4 := (i_eq (rb rz1 (by decide) (by decide)) ⟨by decide, by decide⟩).mp c585
      have gs := f577.out (by omega)
      have hlt := RI.lt hp0 (by omega)
      refine lv_aload_n hx hb dX12_goesOn_550 rfl (lv_at hl 0 rfl) ?_
      refine lv_aload_n hx hb dX12_goesOn_551 rfl (lv_at hl 0 rfl) ?_
      refine va_get (D := (dC, dI)) (ci := 12) (v := .ref (q 38)) (C := RX12) (T := TX12) (N := 85) hx hb hts hiX12 hown hK hP 0 wm0 rfl 51 (by decide) (hts _ (List.mem_cons_of_mem _ (wl_in_1 _ (List.mem_of_getElem? (i := 56) rfl)))) (fun _ h9 => h9) rfl dX12_goesOn_552 ?_
      refine lv_iload_n hx hb dX12_goesOn_555 rfl (lv_at hl 1 rfl) ?_
      have a_A576_38 : A576 38 = A 38 := (hj575.1 38 (by decide) rfl)
      have a_A579_38 : A579 38 = A 38 := (hf581.1 38 (by decide) rfl).trans a_A576_38
      have a_A584_38 : A584 38 = A 38 := by rw [hA584]; exact a_A579_38
      refine x_iald hx hb hK hP 38 1 wm38 rfl (by omega) (by decide) dX12_goesOn_556 (fun z657 hz657 => ?_)
      have rz657 : (0 : Int) ≤ z657 ∧ z657 ≤ 16 := by rw [hz657]; exact hI 38 _
      have gz657 := Hd.mk hz657
      have hz657 : z657 = A 38 ((A 0 53) - 1).toNat := hz657.trans (congrFun a_A584_38 _)
      refine lv_iconst (v := iI 0) hx hb dX12_goesOn_557 (by decide +kernel) ?_
      have e_A584_46 : A584 0 46 = (A579 0 46) := by rw [hA584]; exact rfl
      have e_A584_47 : A584 0 47 = (A 0 47) := by rw [hA584]; exact e_A579_47
      refine x_callv (As := [.int (iI z657), .int (iI 0)]) (rest := []) ⟨hx, hb, hml, hown, hts⟩ (mb_X12_add l dC dI cB cI cJ cZ cQ q _ z657 0 hI (rb rz657 (by decide) (by decide)) ⟨by decide, by decide⟩ (by omega) (CI.fr hc582 (fr_def hA584 (fr.sf (fr.sf (fr.rf (M := []) (N := [53, 54])) rfl) rfl)) rfl rfl)) (cwV 2 hts (goodV (wl_in_1 _ (List.mem_of_getElem? (i := 41) rfl)) (wl_in_1 _ (List.mem_of_getElem? (i := 42) rfl)) (wl_in_1 _ (List.mem_of_getElem? (i := 43) rfl)) (wl_in_0 _ (List.mem_of_getElem? (i := 8) rfl)) (wl_in_1 _ (List.mem_of_getElem? (i := 29) rfl))) rfl rfl rfl (by decide +kernel) ⟨Nat.le_of_ble_eq_true rfl, Nat.le_of_ble_eq_true rfl⟩) hK hDD hA0 hP hS 0 12 wm0 rfl rfl hl.1 (Nat.le_of_ble_eq_true rfl) dX12_goesOn_558 (fun A658 H locs hw659 hP hS => ?_)
      have ghw659 : q_X12_add z657 0 A584 A658 := hw659
      obtain ⟨_, hI, hf660, hw659⟩ := hw659
      obtain ⟨hc661, hw659⟩ := hw659
      have r_A658_0_46 : (0 : Int) ≤ (A658 0 46) ∧ (A658 0 46) ≤ 1600 := hI 0 46
      refine lv_iload_n hx hb dX12_goesOn_561 rfl (lv_at hl 2 rfl) ?_
      refine lv_iconst (v := iI 5) hx hb dX12_goesOn_562 (by decide +kernel) ?_
      refine lv_icmp_ne (tgt := 578) hx hb dX12_goesOn_563 (by decide) (fun _ => ?_) (fun c662 => False.elim (by have c662 : z1 = 5 := (i_eq (rb rz1 (by decide) (by decide)) ⟨by decide, by decide⟩).mp c662; omega))
      refine lv_aload_n hx hb dX12_goesOn_578 rfl (lv_at hl 0 rfl) ?_
      have e_A584_4 : A584 0 4 = (A 0 4) := by rw [hA584]; exact e_A579_4
      have e_A658_4 : A658 0 4 = (A 0 4) := (hf660.2 4 rfl).trans e_A584_4
      have e_A584_5 : A584 0 5 = (A 0 5) := by rw [hA584]; exact e_A579_5
      have e_A658_5 : A658 0 5 = (A 0 5) := (hf660.2 5 rfl).trans e_A584_5
      have e_A584_8 : A584 0 8 = (A576 0 8) := by rw [hA584]; exact e_A579_8
      have e_A658_8 : A658 0 8 = (A576 0 8) := (hf660.2 8 rfl).trans e_A584_8
      refine x_callv (As := []) (rest := []) ⟨hx, hb, hml, hown, hts⟩ (mb_X12_ahead l dC dI cB cI cJ cZ cQ q _ hI) (cwV 0 hts (goodV (wl_in_0 _ (List.mem_of_getElem? (i := 40) rfl)) (wl_in_0 _ (List.mem_of_getElem? (i := 41) rfl)) (wl_in_0 _ (List.mem_of_getElem? (i := 42) rfl)) (wl_in_0 _ (List.mem_of_getElem? (i := 8) rfl)) (wl_in_0 _ (List.mem_of_getElem? (i := 20) rfl))) rfl rfl rfl (by decide +kernel) ⟨Nat.le_of_ble_eq_true rfl, Nat.le_of_ble_eq_true rfl⟩) hK hDD hA0 hP hS 0 12 wm0 rfl rfl hl.1 (Nat.le_of_ble_eq_true rfl) dX12_goesOn_579 (fun A663 H locs hw664 hP hS => ?_)
      have ghw664 : q_X12_ahead A658 A663 := hw664
      obtain ⟨_, hI, hf665, hw664⟩ := hw664
      have r_A663_0_3 : (0 : Int) ≤ (A663 0 3) ∧ (A663 0 3) ≤ 3 := hI 0 3
      have r_A663_0_4 : (0 : Int) ≤ (A663 0 4) ∧ (A663 0 4) ≤ 1600 := hI 0 4
      have r_A663_0_5 : (0 : Int) ≤ (A663 0 5) ∧ (A663 0 5) ≤ 1600 := hI 0 5
      have r_A663_0_8 : (0 : Int) ≤ (A663 0 8) ∧ (A663 0 8) ≤ 5 := hI 0 8
      have hw664x := hw664.1
      have hw664y := hw664.2.1
      replace hw664 := Hd.mk hw664
      refine lv_iconst (v := iI 1) hx hb dX12_goesOn_582 (by decide +kernel) ?_
      have e_A663_46 : A663 0 46 = (A658 0 46) := (hf665.2 46 rfl)
      have e_A658_47 : A658 0 47 = (A 0 47) := (hf660.2 47 rfl).trans e_A584_47
      have e_A663_47 : A663 0 47 = (A 0 47) := (hf665.2 47 rfl).trans e_A658_47
      have e_A576_57 : A576 0 57 = (A 0 57) := (hj575.2 57 rfl)
      have e_A579_57 : A579 0 57 = (A 0 57) := (hf581.2 57 rfl).trans e_A576_57
      have e_A584_57 : A584 0 57 = (A 0 57) := by rw [hA584]; exact e_A579_57
      have e_A658_57 : A658 0 57 = (A 0 57) := (hf660.2 57 rfl).trans e_A584_57
      have e_A663_57 : A663 0 57 = (A 0 57) := (hf665.2 57 rfl).trans e_A658_57
      have r_A_0_57 : (0 : Int) ≤ (A 0 57) ∧ (A 0 57) ≤ 1 := by rw [← e_A663_57]; exact hI 0 57
      have ca666 : A576 35 = A 35 := (hj575.1 35 (by decide) rfl)
      have ca667 : A579 35 = A 35 := (hf581.1 35 (by decide) rfl).trans ca666
      have ca668 : A663 33 = A658 33 := (hf665.1 33 (by decide) rfl)
      have ca669 : A584 33 = A579 33 := by rw [hA584]; exact rfl
      have gx : 10 ≤ z657 := by rw [hz657]; exact hp2 _ (by omega) (Or.inr (by rw [← hz1]; omega))
      have ca670 : A584 29 = A579 29 := by rw [hA584]; exact rfl
      have ca671 : A658 29 = A579 29 := (hf660.1 29 (by decide) rfl).trans ca670
      have ca672 : A663 29 = A579 29 := (hf665.1 29 (by decide) rfl).trans ca671
      have ca673 : A584 31 = A579 31 := by rw [hA584]; exact rfl
      have ca674 : A658 31 = A579 31 := (hf660.1 31 (by decide) rfl).trans ca673
      have ca675 : A663 31 = A579 31 := (hf665.1 31 (by decide) rfl).trans ca674
      have ca676 : A584 35 = A579 35 := by rw [hA584]; exact rfl
      have ca677 : A658 35 = A579 35 := (hf660.1 35 (by decide) rfl).trans ca676
      have ca678 : A663 35 = A579 35 := (hf665.1 35 (by decide) rfl).trans ca677
      have ca679 : A584 37 = A579 37 := by rw [hA584]; exact rfl
      have ca680 : A658 37 = A579 37 := (hf660.1 37 (by decide) rfl).trans ca679
      have ca681 : A663 37 = A579 37 := (hf665.1 37 (by decide) rfl).trans ca680
      have ca682 : A584 39 = A579 39 := by rw [hA584]; exact rfl
      have ca683 : A658 39 = A579 39 := (hf660.1 39 (by decide) rfl).trans ca682
      have ca684 : A663 39 = A579 39 := (hf665.1 39 (by decide) rfl).trans ca683
      have ca685 : A584 40 = A579 40 := by rw [hA584]; exact rfl
      have ca686 : A658 40 = A579 40 := (hf660.1 40 (by decide) rfl).trans ca685
      have ca687 : A663 40 = A579 40 := (hf665.1 40 (by decide) rfl).trans ca686
      have e_A584_53 : A584 0 53 = (A 0 53) - 1 := by rw [hA584]; rfl
      have e_A658_53 : A658 0 53 = (A 0 53) - 1 := (hf660.2 53 rfl).trans e_A584_53
      have e_A663_53 : A663 0 53 = (A 0 53) - 1 := (hf665.2 53 rfl).trans e_A658_53
      have e_A584_54 : A584 0 54 = (A 0 54) - 1 := by rw [hA584]; rfl
      have e_A658_54 : A658 0 54 = (A 0 54) - 1 := (hf660.2 54 rfl).trans e_A584_54
      have e_A663_54 : A663 0 54 = (A 0 54) - 1 := (hf665.2 54 rfl).trans e_A658_54
      have e_A584_56 : A584 0 56 = (A579 0 56) := by rw [hA584]; exact rfl
      have e_A658_56 : A658 0 56 = (A579 0 56) := (hf660.2 56 rfl).trans e_A584_56
      have e_A663_56 : A663 0 56 = (A579 0 56) := (hf665.2 56 rfl).trans e_A658_56
      have ca688 : A584 36 = A579 36 := by rw [hA584]; exact rfl
      have ca689 : A658 36 = A579 36 := (hf660.1 36 (by decide) rfl).trans ca688
      have ca690 : A663 36 = A579 36 := (hf665.1 36 (by decide) rfl).trans ca689
      have f53j := e_A579_53
      have ca691 : A584 39 = A579 39 := by rw [hA584]; exact rfl
      have ca692 : A658 39 = A579 39 := (hf660.1 39 (by decide) rfl).trans ca691
      have ca693 : A663 39 = A579 39 := (hf665.1 39 (by decide) rfl).trans ca692
      have ca694 : A584 40 = A579 40 := by rw [hA584]; exact rfl
      have ca695 : A658 40 = A579 40 := (hf660.1 40 (by decide) rfl).trans ca694
      have ca696 : A663 40 = A579 40 := (hf665.1 40 (by decide) rfl).trans ca695
      have ca697 : A584 35 = A579 35 := by rw [hA584]; exact rfl
      have ca698 : A658 35 = A579 35 := (hf660.1 35 (by decide) rfl).trans ca697
      have ca699 : A663 35 = A579 35 := (hf665.1 35 (by decide) rfl).trans ca698
      have ca700 : A584 38 = A579 38 := by rw [hA584]; exact rfl
      have ca701 : A658 38 = A579 38 := (hf660.1 38 (by decide) rfl).trans ca700
      have ca702 : A663 38 = A579 38 := (hf665.1 38 (by decide) rfl).trans ca701
      exact RET 1 _ _ _ _ _ ⟨hk10 _ _ (u_d_X12_goesOn_10 ⟨hIv, (Or.inl ⟨c578, ⟨A579, ghw580, ⟨A584, hA584, (Or.inr ⟨c585, ⟨z657, gz657.out, ⟨A658, ghw659, ⟨A663, ghw664, ⟨rfl, rfl⟩⟩⟩⟩⟩)⟩⟩⟩)⟩), hI, fr.trans (fr.trans (fr_def hA584 (fr.sf (fr.sf (fr.trans (fr.trans (fr.rf) hj575 rfl rfl) hf581 rfl rfl) rfl) rfl)) hf660 rfl rfl) hf665 rfl rfl, (CI.fr hc661 hf665 rfl rfl), ⟨by decide, Hd.mk (fun h0 => ⟨fun _ => ⟨by rw [show A663 0 57 = 1 by omega]; exact RI.shut hj1 hIj (by omega) (by rw [ca667, e_A579_53, ← hz1]; omega) (RI.full hj2.out) (Or.inr ⟨z657, (by rw [ca667, e_A579_53, ← hz1]; omega), gx, by omega, rfl, rfl⟩) ⟨ca672, ca675, (ca668.trans (hw659.2.trans (by rw [ca669, show A584 0 47 = A579 0 47 from (e_A584_47.trans e_A579_47.symm), show A584 0 46 = A579 0 46 from e_A584_46]))), ca678, ca681, ca684, ca687, (by omega), (e_A663_47.trans e_A579_47.symm), (by omega), (by omega), e_A663_56⟩ (by omega) (by omega) hw664.out.2.2.1, ⟨PR.pop (PR.fr (PR.fr hp2 hj575 rfl rfl) hf581 rfl rfl) ca699 (by omega) ca702, SP.close (r36 := A579 36) hc583 (by omega) (RI.full hj2.out) ca690 (fun _ _ => rfl) (Or.inl rfl) ca693 ca696 (by omega) e_A663_56⟩, by omega⟩, fun h => absurd h (by decide)⟩)⟩⟩ hP hS dX12_goesOn_583
  · have c578 : ¬ (A576 0 8) ≤ 0 := mt (i_le0 (rb r_A576_0_8 (by decide) (by decide))).mpr c578
    refine lv_iconst (v := iI 0) hx hb dX12_goesOn_518 (by decide +kernel) ?_
    have e_A576_4 : A576 0 4 = (A 0 4) := (hj575.2 4 rfl)
    have e_A576_5 : A576 0 5 = (A 0 5) := (hj575.2 5 rfl)
    have e_A576_46 : A576 0 46 = (A 0 46) := (hj575.2 46 rfl)
    have e_A576_47 : A576 0 47 = (A 0 47) := (hj575.2 47 rfl)
    have e_A576_57 : A576 0 57 = (A 0 57) := (hj575.2 57 rfl)
    have r_A_0_57 : (0 : Int) ≤ (A 0 57) ∧ (A 0 57) ≤ 1 := by rw [← e_A576_57]; exact hI 0 57
    exact RET 0 _ _ _ _ _ ⟨hk10 _ _ (u_d_X12_goesOn_10 ⟨hIv, (Or.inr ⟨c578, ⟨rfl, rfl⟩⟩)⟩), hI, fr.trans (fr.rf) hj575 rfl rfl, (CI.fr hcCI hj575 rfl rfl), ⟨by decide, Hd.mk (fun h => absurd h (by omega))⟩⟩ hP hS dX12_goesOn_519
