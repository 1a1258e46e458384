set_option maxHeartbeats 4000000 in
set_option maxRecDepth 100000 in
theorem mb_X12_goesOn_c175 (l : Launch) (dC : Nat → ClassId) (dI : Nat → Nat → Nat) (cB cI cJ cZ cQ : ClassId) (q : Nat → Nat) (A : St) (hI : IM A) (hp0 : RI 1 A) (hp1 : A 0 8 = 0) (hp2 : PR A) (hp3 : A 0 57 = 1) (hcCI : CI A) (p : Program) (e : Env) (s : State) (m : MethodId) (below : List Frame) (meth : Method) (c : Code) (Q : State → Prop) (AS : Nat → Prop) (hx : p.tables.exec = Jvm.exec) (hb : c.code = cX12_goesOn) (hml : c.maxLocals = 5) (hown : s.vm.findClass RX12 = some m.cls) (hts : ∀ w ∈ ws_mb_X12_goesOn, w.before [.ref (q 0)].toArray s = true) (hK : va_K (dC, dI) vwCl (tyA cB cI cJ cZ cQ) s) (hDD : ∀ A', va_D AS (WM cI cJ cZ q A')) (hA0 : ∀ b : Nat, s.heap.size ≤ b → AS b) (RET : ∀ (z : Int) (u : St) (H : Heap) (locs : List Loc) (pc : Nat) (ls : Array Slot), ((fun z u => IM u ∧ fr [33, 34, 35, 36, 37, 40] [3, 4, 5, 6, 7, 8, 9, 46, 53, 54, 56, 57] A u ∧ CI u ∧ ((0 ≤ z ∧ z ≤ 1) ∧ (Hd (u 0 8 = 0 → (z = 1 → RI (u 0 57) u ∧ PR u ∧ A 0 4 + 1 ≤ u 0 4) ∧ (z = 0 → DP (u 33) (sA u) (1600 * u 0 47 + u 0 46) 1 ∧ CB u ∧ A 0 4 ≤ u 0 4))))) z u) → va_P (dC, dI) vwCl (WM cI cJ cZ q u) H → va_S AS s.heap H locs → decode cX12_goesOn pc = .ok (.ireturn, 1) → W p l e (headSpec ws_mb_X12_goesOn ({ frames := 2, cells := 0, slots := 0, locals := 47 } : Room)).room s m [.ref (q 0)].toArray below meth c H locs 0 0 Q (F0 m pc ls [.int (iI z)])) (H : Heap) (locs : List Loc) (ls : Array Slot) (z1 z2 : Int) (rz1 : (0 : Int) ≤ z1 ∧ z1 ≤ 5) (rz2 : (0 : Int) ≤ z2 ∧ z2 ≤ 1) (hz1 : z1 = A 35 ((A 0 53) - 1).toNat) (hP : va_P (dC, dI) vwCl (WM cI cJ cZ q A) H) (hS : va_S AS s.heap H locs) (hl : lv_has ls 5 [(0, .ref (q 0)), (1, .int (iI ((A 0 53) - 1))), (2, .int (iI z1)), (3, .int (iI z2))]) : W p l e (headSpec ws_mb_X12_goesOn ({ frames := 2, cells := 0, slots := 0, locals := 47 } : Room)).room s m [.ref (q 0)].toArray below meth c H locs 0 0 Q (F0 m 175 ls []) := by
  have hiX12 : ∀ w ∈ u_ws RX12 TX12 85, w ∈ ws_mb_X12_goesOn := fun w h => List.mem_cons_of_mem _ (wx_lay w h)
  have hI0 := hI
  have hdp := RI.deep hp0 hI0
  have hrm := RI.room hp0 hI0
  have r_A_0_3 : (0 : Int) ≤ (A 0 3) ∧ (A 0 3) ≤ 3 := hI 0 3
  have r_A_0_4 : (0 : Int) ≤ (A 0 4) ∧ (A 0 4) ≤ 1600 := hI 0 4
  have r_A_0_5 : (0 : Int) ≤ (A 0 5) ∧ (A 0 5) ≤ 1600 := hI 0 5
  have r_A_0_7 : (-9223372036854775808 : Int) ≤ (A 0 7) ∧ (A 0 7) ≤ 9223372036854775807 := hI 0 7
  have r_A_0_8 : (0 : Int) ≤ (A 0 8) ∧ (A 0 8) ≤ 5 := hI 0 8
  have r_A_0_46 : (0 : Int) ≤ (A 0 46) ∧ (A 0 46) ≤ 1600 := hI 0 46
  have r_A_0_47 : (0 : Int) ≤ (A 0 47) ∧ (A 0 47) ≤ 1 := hI 0 47
  have r_A_0_53 : (0 : Int) ≤ (A 0 53) ∧ (A 0 53) ≤ 20 := hI 0 53
  have r_A_0_54 : (0 : Int) ≤ (A 0 54) ∧ (A 0 54) ≤ 8 := hI 0 54
  have r_A_0_56 : (0 : Int) ≤ (A 0 56) ∧ (A 0 56) ≤ 500 := hI 0 56
  have hop := hp0.1
  refine lv_iload_n hx hb dX12_goesOn_175 rfl (lv_at hl 3 rfl) ?_
  refine lv_if_eq (tgt := 272) hx hb dX12_goesOn_176 (by decide) (fun c285 => ?_) (fun c285 => ?_)
  · have c285 : z2 = 0 := (i_eq0 (rb rz2 (by decide) (by decide))).mp c285
    exact mb_X12_goesOn_c272 l dC dI cB cI cJ cZ cQ q A hI0 hp0 hp1 hp2 hp3 hcCI p e s m below meth c Q AS hx hb hml hown hts hK hDD hA0 RET _ _ _ z1 z2 (by omega) (by omega) hz1 hP hS (lv_sub hl [0, 1, 2, 3] rfl)
  · have c285 : ¬ z2 = 0 := mt (i_eq0 (rb rz2 (by decide) (by decide))).mpr c285
    refine lv_aload_n hx hb dX12_goesOn_179 rfl (lv_at hl 0 rfl) ?_
    refine va_get (D := (dC, dI)) (ci := 12) (v := .ref (q 36)) (C := RX12) (T := TX12) (N := 85) hx hb hts hiX12 hown hK hP 0 wm0 rfl 49 (by decide) (hts _ (List.mem_cons_of_mem _ (wl_in_1 _ (List.mem_of_getElem? (i := 47) rfl)))) (fun _ h9 => h9) rfl dX12_goesOn_180 ?_
    refine lv_iload_n hx hb dX12_goesOn_183 rfl (lv_at hl 1 rfl) ?_
    refine x_iald hx hb hK hP 36 1 wm36 rfl (by omega) (by decide) dX12_goesOn_184 (fun z287 hz287 => ?_)
    have rz287 : (0 : Int) ≤ z287 ∧ z287 ≤ 2 := by rw [hz287]; exact hI 36 _
    have hz287 : z287 = A 36 ((A 0 53) - 1).toNat := hz287
    refine lv_if_ne (tgt := 272) hx hb dX12_goesOn_185 (by decide) (fun c288 => ?_) (fun c288 => ?_)
    · have c288 : ¬ z287 = 0 := mt (i_eq0 (rb rz287 (by decide) (by decide))).mpr c288
      exact mb_X12_goesOn_c272 l dC dI cB cI cJ cZ cQ q A hI0 hp0 hp1 hp2 hp3 hcCI p e s m below meth c Q AS hx hb hml hown hts hK hDD hA0 RET _ _ _ z1 z2 (by omega) (by omega) hz1 hP hS (lv_sub hl [0, 1, 2, 3] rfl)
    · have c288 : z287 = 0 := (i_eq0 (rb rz287 (by decide) (by decide))).mp c288
      refine lv_aload_n hx hb dX12_goesOn_188 rfl (lv_at hl 0 rfl) ?_
      refine lv_bipush (v := iI 60) hx hb dX12_goesOn_189 (by decide +kernel) ?_
      have r_A_0_6 : (-2147483648 : Int) ≤ (A 0 6) ∧ (A 0 6) ≤ 2147483647 := hI 0 6
      refine x_calli (As := [.int (iI 60)]) (rest := []) ⟨hx, hb, hml, hown, hts⟩ (mb_X12_isSign l dC dI cB cI cJ cZ cQ q _ 60 hI ⟨by decide, by decide⟩) (cwV 1 hts (goodV (wl_in_0 _ (List.mem_of_getElem? (i := 37) rfl)) (wl_in_0 _ (List.mem_of_getElem? (i := 38) rfl)) (wl_in_0 _ (List.mem_of_getElem? (i := 39) rfl)) (wl_in_0 _ (List.mem_of_getElem? (i := 8) rfl)) (wl_in_0 _ (List.mem_of_getElem? (i := 34) rfl))) rfl rfl rfl (by decide +kernel) ⟨Nat.le_of_ble_eq_true rfl, Nat.le_of_ble_eq_true rfl⟩) hK hDD hA0 hP hS 0 12 wm0 rfl rfl hl.1 (Nat.le_of_ble_eq_true rfl) dX12_goesOn_191 (fun z289 A290 H locs hw291 hP hS => ?_)
      obtain ⟨rfl, hw291⟩ := hw291
      have rz289 : 0 ≤ z289 ∧ z289 ≤ 1 := hw291.1
      replace hw291 := Hd.mk hw291.2
      refine lv_if_ne (tgt := 215) hx hb dX12_goesOn_194 (by decide) (fun c292 => ?_) (fun c292 => ?_)
      · have c292 : ¬ z289 = 0 := mt (i_eq0 (rb rz289 (by decide) (by decide))).mpr c292
        have hw291b := hw291.out.mp (by omega)
        refine lv_aload_n hx hb dX12_goesOn_215 rfl (lv_at hl 0 rfl) ?_
        refine lv_iconst (v := iI 5) hx hb dX12_goesOn_216 (by decide +kernel) ?_
        refine x_callv (As := [.int (iI 5)]) (rest := []) ⟨hx, hb, hml, hown, hts⟩ (mb_X12_joins l dC dI cB cI cJ cZ cQ q _ 5 hI ⟨by decide, by decide⟩ (by exact hp0) hcCI) (cwV 1 hts (goodV (wl_in_2 _ (List.mem_of_getElem? (i := 10) rfl)) (wl_in_2 _ (List.mem_of_getElem? (i := 11) rfl)) (wl_in_2 _ (List.mem_of_getElem? (i := 12) rfl)) (wl_in_0 _ (List.mem_of_getElem? (i := 8) rfl)) (wl_in_1 _ (List.mem_of_getElem? (i := 34) rfl))) rfl rfl rfl (by decide +kernel) ⟨Nat.le_of_ble_eq_true rfl, Nat.le_of_ble_eq_true rfl⟩) hK hDD hA0 hP hS 0 12 wm0 rfl rfl hl.1 (Nat.le_of_ble_eq_true rfl) dX12_goesOn_217 (fun A293 H locs hw294 hP hS => ?_)
        obtain ⟨hI, hf295, hw294⟩ := hw294
        obtain ⟨hc296, hw294⟩ := hw294
        have e_A293_53 : A293 0 53 = (A 0 53) := (hf295.2 53 rfl)
        have r_A293_0_56 : (0 : Int) ≤ (A293 0 56) ∧ (A293 0 56) ≤ 500 := hI 0 56
        have hj := hw294
        have hIj := hI
        have hrj := RI.room hj.1 hIj
        clear hw294
        have e_A293_3 : A293 0 3 = (A 0 3) := (hf295.2 3 rfl)
        have e_A293_4 : A293 0 4 = (A 0 4) := (hf295.2 4 rfl)
        have e_A293_5 : A293 0 5 = (A 0 5) := (hf295.2 5 rfl)
        have e_A293_7 : A293 0 7 = (A 0 7) := (hf295.2 7 rfl)
        have e_A293_8 : A293 0 8 = (A 0 8) := (hf295.2 8 rfl)
        have e_A293_47 : A293 0 47 = (A 0 47) := (hf295.2 47 rfl)
        have e_A293_54 : A293 0 54 = (A 0 54) := (hf295.2 54 rfl)
        have r_A293_0_46 : (0 : Int) ≤ (A293 0 46) ∧ (A293 0 46) ≤ 1600 := hI 0 46
        refine lv_aload_n hx hb dX12_goesOn_220 rfl (lv_at hl 0 rfl) ?_
        refine lv_aload_n hx hb dX12_goesOn_221 rfl (lv_at hl 0 rfl) ?_
        refine lv_bipush (v := iI 60) hx hb dX12_goesOn_222 (by decide +kernel) ?_
        have e_A293_6 : A293 0 6 = (A 0 6) := (hf295.2 6 rfl)
        refine x_calli (As := [.int (iI 60)]) (rest := [.ref (q 0)]) ⟨hx, hb, hml, hown, hts⟩ (mb_X12_isSign l dC dI cB cI cJ cZ cQ q _ 60 hI ⟨by decide, by decide⟩) (cwV 1 hts (goodV (wl_in_0 _ (List.mem_of_getElem? (i := 37) rfl)) (wl_in_0 _ (List.mem_of_getElem? (i := 38) rfl)) (wl_in_0 _ (List.mem_of_getElem? (i := 39) rfl)) (wl_in_0 _ (List.mem_of_getElem? (i := 8) rfl)) (wl_in_0 _ (List.mem_of_getElem? (i := 34) rfl))) rfl rfl rfl (by decide +kernel) ⟨Nat.le_of_ble_eq_true rfl, Nat.le_of_ble_eq_true rfl⟩) hK hDD hA0 hP hS 0 12 wm0 rfl rfl hl.1 (Nat.le_of_ble_eq_true rfl) dX12_goesOn_224 (fun z297 A298 H locs hw299 hP hS => ?_)
        obtain ⟨rfl, hw299⟩ := hw299
        have rz297 : 0 ≤ z297 ∧ z297 ≤ 1 := hw299.1
        replace hw299 := Hd.mk hw299.2
        have ez297 : z297 = z289 := by have a := hw291.out; have b := hw299.out; omega
        refine lv_if_eq (tgt := 235) hx hb dX12_goesOn_227 (by decide) (fun c300 => False.elim (by have c300 : z297 = 0 := (i_eq0 (rb rz297 (by decide) (by decide))).mp c300; omega)) (fun _ => ?_)
        refine lv_bipush (v := iI 17) hx hb dX12_goesOn_230 (by decide +kernel) ?_
        refine lv_goto (tgt := 251) hx hb dX12_goesOn_232 (by decide) ?_
        refine x_callv (As := [.int (iI 17)]) (rest := []) ⟨hx, hb, hml, hown, hts⟩ (mb_X12_holdsBack l dC dI cB cI cJ cZ cQ q _ 17 hI ⟨by decide, by decide⟩ (by omega)) (cwV 1 hts (goodV (wl_in_2 _ (List.mem_of_getElem? (i := 2) rfl)) (wl_in_2 _ (List.mem_of_getElem? (i := 3) rfl)) (wl_in_2 _ (List.mem_of_getElem? (i := 4) rfl)) (wl_in_0 _ (List.mem_of_getElem? (i := 8) rfl)) (wl_in_1 _ (List.mem_of_getElem? (i := 44) rfl))) rfl rfl rfl (by decide +kernel) ⟨Nat.le_of_ble_eq_true rfl, Nat.le_of_ble_eq_true rfl⟩) hK hDD hA0 hP hS 0 12 wm0 rfl rfl hl.1 (Nat.le_of_ble_eq_true rfl) dX12_goesOn_251 (fun A301 H locs hw302 hP hS => ?_)
        obtain ⟨hI, hf303, hw302⟩ := hw302
        have r_A301_0_56 : (0 : Int) ≤ (A301 0 56) ∧ (A301 0 56) ≤ 500 := hI 0 56
        refine lv_aload_n hx hb dX12_goesOn_254 rfl (lv_at hl 0 rfl) ?_
        refine va_get (D := (dC, dI)) (ci := 12) (v := .ref (q 36)) (C := RX12) (T := TX12) (N := 85) hx hb hts hiX12 hown hK hP 0 wm0 rfl 49 (by decide) (hts _ (List.mem_cons_of_mem _ (wl_in_1 _ (List.mem_of_getElem? (i := 47) rfl)))) (fun _ h9 => h9) rfl dX12_goesOn_255 ?_
        refine lv_iload_n hx hb dX12_goesOn_258 rfl (lv_at hl 1 rfl) ?_
        refine lv_iconst (v := iI 1) hx hb dX12_goesOn_259 (by decide +kernel) ?_
        refine x_iast hx hb hK hP hDD hS 36 1 wm36 rfl (by omega) (by decide) dX12_goesOn_260 ws36 (fun H locs hP hS => ?_)
        have hI := hI.st (j := 36) (i := ((A 0 53) - 1).toNat) (v := 1) (show (0 : Int) ≤ 1 ∧ 1 ≤ 2 from (by omega))
        refine lv_aload_n hx hb dX12_goesOn_261 rfl (lv_at hl 0 rfl) ?_
        obtain ⟨A304, hA304⟩ : ∃ A304 : St, A304 = (stA A301 36 ((A 0 53) - 1).toNat 1) := ⟨_, rfl⟩
        rw [← hA304] at hP hI
        have e_A301_4 : A301 0 4 = (A 0 4) := (hf303.2 4 rfl).trans e_A293_4
        have e_A304_4 : A304 0 4 = (A 0 4) := by rw [hA304]; exact e_A301_4
        have e_A301_5 : A301 0 5 = (A 0 5) := (hf303.2 5 rfl).trans e_A293_5
        have e_A304_5 : A304 0 5 = (A 0 5) := by rw [hA304]; exact e_A301_5
        have e_A301_8 : A301 0 8 = (A 0 8) := (hf303.2 8 rfl).trans e_A293_8
        have e_A304_8 : A304 0 8 = (A 0 8) := by rw [hA304]; exact e_A301_8
        refine x_callv (As := []) (rest := []) ⟨hx, hb, hml, hown, hts⟩ (mb_X12_ahead l dC dI cB cI cJ cZ cQ q _ hI) (cwV 0 hts (goodV (wl_in_0 _ (List.mem_of_getElem? (i := 40) rfl)) (wl_in_0 _ (List.mem_of_getElem? (i := 41) rfl)) (wl_in_0 _ (List.mem_of_getElem? (i := 42) rfl)) (wl_in_0 _ (List.mem_of_getElem? (i := 8) rfl)) (wl_in_0 _ (List.mem_of_getElem? (i := 20) rfl))) rfl rfl rfl (by decide +kernel) ⟨Nat.le_of_ble_eq_true rfl, Nat.le_of_ble_eq_true rfl⟩) hK hDD hA0 hP hS 0 12 wm0 rfl rfl hl.1 (Nat.le_of_ble_eq_true rfl) dX12_goesOn_262 (fun A305 H locs hw306 hP hS => ?_)
        obtain ⟨hI, hf307, hw306⟩ := hw306
        have r_A305_0_3 : (0 : Int) ≤ (A305 0 3) ∧ (A305 0 3) ≤ 3 := hI 0 3
        have r_A305_0_4 : (0 : Int) ≤ (A305 0 4) ∧ (A305 0 4) ≤ 1600 := hI 0 4
        have r_A305_0_5 : (0 : Int) ≤ (A305 0 5) ∧ (A305 0 5) ≤ 1600 := hI 0 5
        have r_A305_0_8 : (0 : Int) ≤ (A305 0 8) ∧ (A305 0 8) ≤ 5 := hI 0 8
        have hw306x := hw306.1
        have hw306y := hw306.2.1
        replace hw306 := Hd.mk hw306
        refine lv_aload_n hx hb dX12_goesOn_265 rfl (lv_at hl 0 rfl) ?_
        refine lv_iconst (v := iI 0) hx hb dX12_goesOn_266 (by decide +kernel) ?_
        refine x_put (D := (dC, dI)) (ci := 12) (v := .int (iI 0)) (ty := .boolean) (C := RX12) (T := TX12) (N := 85) hx hb hts hiX12 tyX12 tyX12_ok nmX12 hown hK hP hDD hS 0 wm0 rfl 57 (by decide) (hts _ (List.mem_cons_of_mem _ (wl_in_2 _ (List.mem_of_getElem? (i := 9) rfl)))) (fun _ h9 => h9) rfl (by decide +kernel) (by decide +kernel) rfl (Nat.le_of_ble_eq_true rfl) dX12_goesOn_267 (wf57 (v := 0)) (fun H locs hP hS => ?_)
        have hI := hI.st (j := 0) (i := 57) (v := 0) (show (0 : Int) ≤ 0 ∧ 0 ≤ 1 from (by omega))
        refine lv_iconst (v := iI 1) hx hb dX12_goesOn_270 (by decide +kernel) ?_
        obtain ⟨A308, hA308⟩ : ∃ A308 : St, A308 = (stA A305 0 57 0) := ⟨_, rfl⟩
        rw [← hA308] at hP hI
        have e_A308_4 : A308 0 4 = (A305 0 4) := by rw [hA308]; exact rfl
        have e_A308_5 : A308 0 5 = (A305 0 5) := by rw [hA308]; exact rfl
        have e_A308_8 : A308 0 8 = (A305 0 8) := by rw [hA308]; exact rfl
        have e_A301_46 : A301 0 46 = (A293 0 46) := (hf303.2 46 rfl)
        have e_A304_46 : A304 0 46 = (A293 0 46) := by rw [hA304]; exact e_A301_46
        have e_A305_46 : A305 0 46 = (A293 0 46) := (hf307.2 46 rfl).trans e_A304_46
        have e_A308_46 : A308 0 46 = (A293 0 46) := by rw [hA308]; exact e_A305_46
        have e_A301_47 : A301 0 47 = (A 0 47) := (hf303.2 47 rfl).trans e_A293_47
        have e_A304_47 : A304 0 47 = (A 0 47) := by rw [hA304]; exact e_A301_47
        have e_A305_47 : A305 0 47 = (A 0 47) := (hf307.2 47 rfl).trans e_A304_47
        have e_A308_47 : A308 0 47 = (A 0 47) := by rw [hA308]; exact e_A305_47
        have e_A308_57 : A308 0 57 = 0 := by rw [hA308]; rfl
        have ca309 : A293 35 = A 35 := (hf295.1 35 (by decide) rfl)
        have ca310 : A308 1 = A305 1 := by rw [hA308]; exact rfl
        have e_A308_3 : A308 0 3 = (A305 0 3) := by rw [hA308]; exact rfl
        have e_A308_7 : A308 0 7 = (A305 0 7) := by rw [hA308]; exact rfl
        have hlt := RI.lt hp0 (by omega)
        have ca311 : A304 40 = A301 40 := by rw [hA304]; exact rfl
        have ca312 : A305 40 = A301 40 := (hf307.1 40 (by decide) rfl).trans ca311
        have ca313 : A308 40 = A301 40 := by rw [hA308]; exact ca312
        have ca314 : A301 29 = A293 29 := (hf303.1 29 (by decide) rfl)
        have ca315 : A304 29 = A293 29 := by rw [hA304]; exact ca314
        have ca316 : A305 29 = A293 29 := (hf307.1 29 (by decide) rfl).trans ca315
        have ca317 : A308 29 = A293 29 := by rw [hA308]; exact ca316
        have ca318 : A301 31 = A293 31 := (hf303.1 31 (by decide) rfl)
        have ca319 : A304 31 = A293 31 := by rw [hA304]; exact ca318
        have ca320 : A305 31 = A293 31 := (hf307.1 31 (by decide) rfl).trans ca319
        have ca321 : A308 31 = A293 31 := by rw [hA308]; exact ca320
        have ca322 : A301 33 = A293 33 := (hf303.1 33 (by decide) rfl)
        have ca323 : A304 33 = A293 33 := by rw [hA304]; exact ca322
        have ca324 : A305 33 = A293 33 := (hf307.1 33 (by decide) rfl).trans ca323
        have ca325 : A308 33 = A293 33 := by rw [hA308]; exact ca324
        have ca326 : A301 35 = A293 35 := (hf303.1 35 (by decide) rfl)
        have ca327 : A304 35 = A293 35 := by rw [hA304]; exact ca326
        have ca328 : A305 35 = A293 35 := (hf307.1 35 (by decide) rfl).trans ca327
        have ca329 : A308 35 = A293 35 := by rw [hA308]; exact ca328
        have ca330 : A301 37 = A293 37 := (hf303.1 37 (by decide) rfl)
        have ca331 : A304 37 = A293 37 := by rw [hA304]; exact ca330
        have ca332 : A305 37 = A293 37 := (hf307.1 37 (by decide) rfl).trans ca331
        have ca333 : A308 37 = A293 37 := by rw [hA308]; exact ca332
        have ca334 : A301 39 = A293 39 := (hf303.1 39 (by decide) rfl)
        have ca335 : A304 39 = A293 39 := by rw [hA304]; exact ca334
        have ca336 : A305 39 = A293 39 := (hf307.1 39 (by decide) rfl).trans ca335
        have ca337 : A308 39 = A293 39 := by rw [hA308]; exact ca336
        have e_A301_53 : A301 0 53 = (A 0 53) := (hf303.2 53 rfl).trans e_A293_53
        have e_A304_53 : A304 0 53 = (A 0 53) := by rw [hA304]; exact e_A301_53
        have e_A305_53 : A305 0 53 = (A 0 53) := (hf307.2 53 rfl).trans e_A304_53
        have e_A308_53 : A308 0 53 = (A 0 53) := by rw [hA308]; exact e_A305_53
        have e_A301_54 : A301 0 54 = (A 0 54) := (hf303.2 54 rfl).trans e_A293_54
        have e_A304_54 : A304 0 54 = (A 0 54) := by rw [hA304]; exact e_A301_54
        have e_A305_54 : A305 0 54 = (A 0 54) := (hf307.2 54 rfl).trans e_A304_54
        have e_A308_54 : A308 0 54 = (A 0 54) := by rw [hA308]; exact e_A305_54
        have e_A304_56 : A304 0 56 = (A301 0 56) := by rw [hA304]; exact rfl
        have e_A305_56 : A305 0 56 = (A301 0 56) := (hf307.2 56 rfl).trans e_A304_56
        have e_A308_56 : A308 0 56 = (A301 0 56) := by rw [hA308]; exact e_A305_56
        exact RET 1 _ _ _ _ _ ⟨hI, fr_def hA308 (fr.sf (fr.trans (fr_def hA304 (fr.st (fr.trans (fr.trans (fr.rf) hf295 rfl rfl) hf303 rfl rfl) (by decide) rfl)) hf307 rfl rfl) rfl), (CI.fr (CI.fr (CI.fr (CI.fr hc296 hf303 rfl rfl) (fr_def hA304 (fr.st (fr.rf (M := [36]) (N := [])) (by decide) rfl)) rfl rfl) hf307 rfl rfl) (fr_def hA308 (fr.sf (fr.rf (M := []) (N := [57])) rfl)) rfl rfl), ⟨by decide, Hd.mk (fun h0 => ⟨fun _ => ⟨by rw [show A308 0 57 = 0 by omega]; exact RI.op (x := 17) (r37 := A293 37) hj.1 hIj (by omega) (by decide) (hj.2.imp id (fun t => by rw [show rk 17 = 5 by decide]; exact t)) (fun _ _ => rfl) (fun h => absurd h (by rw [RI.nn hj.1 rfl]; decide)) ⟨ca317, ca321, ca325, ca329, ca333, ca337, (ca313.trans hw302.2), e_A308_46, (e_A308_47.trans e_A293_47.symm), (e_A308_53.trans e_A293_53.symm), (e_A308_54.trans e_A293_54.symm), (by omega)⟩ (by omega) (by omega) (LX.of ca310 e_A308_3 e_A308_4 e_A308_5 e_A308_7 hw306.out.2.2.1), (PR.fr (PR.fr (PR.fr (PR.fr (PR.fr hp2 hf295 rfl rfl) hf303 rfl rfl) (fr_def hA304 (fr.st (fr.rf (M := [36]) (N := [])) (by decide) rfl)) rfl rfl) hf307 rfl rfl) (fr_def hA308 (fr.sf (fr.rf (M := []) (N := [57])) rfl)) rfl rfl), by omega⟩, fun h => absurd h (by decide)⟩)⟩⟩ hP hS dX12_goesOn_271
      · have c292 : z289 = 0 := (i_eq0 (rb rz289 (by decide) (by decide))).mp c292
        refine lv_aload_n hx hb dX12_goesOn_197 rfl (lv_at hl 0 rfl) ?_
        refine lv_bipush (v := iI 62) hx hb dX12_goesOn_198 (by decide +kernel) ?_
        refine x_calli (As := [.int (iI 62)]) (rest := []) ⟨hx, hb, hml, hown, hts⟩ (mb_X12_isSign l dC dI cB cI cJ cZ cQ q _ 62 hI ⟨by decide, by decide⟩) (cwV 1 hts (goodV (wl_in_0 _ (List.mem_of_getElem? (i := 37) rfl)) (wl_in_0 _ (List.mem_of_getElem? (i := 38) rfl)) (wl_in_0 _ (List.mem_of_getElem? (i := 39) rfl)) (wl_in_0 _ (List.mem_of_getElem? (i := 8) rfl)) (wl_in_0 _ (List.mem_of_getElem? (i := 34) rfl))) rfl rfl rfl (by decide +kernel) ⟨Nat.le_of_ble_eq_true rfl, Nat.le_of_ble_eq_true rfl⟩) hK hDD hA0 hP hS 0 12 wm0 rfl rfl hl.1 (Nat.le_of_ble_eq_true rfl) dX12_goesOn_200 (fun z338 A339 H locs hw340 hP hS => ?_)
        obtain ⟨rfl, hw340⟩ := hw340
        have rz338 : 0 ≤ z338 ∧ z338 ≤ 1 := hw340.1
        replace hw340 := Hd.mk hw340.2
        refine lv_if_ne (tgt := 215) hx hb dX12_goesOn_203 (by decide) (fun c341 => ?_) (fun c341 => ?_)
        · have c341 : ¬ z338 = 0 := mt (i_eq0 (rb rz338 (by decide) (by decide))).mpr c341
          have hw340b := hw340.out.mp (by omega)
          refine lv_aload_n hx hb dX12_goesOn_215 rfl (lv_at hl 0 rfl) ?_
          refine lv_iconst (v := iI 5) hx hb dX12_goesOn_216 (by decide +kernel) ?_
          refine x_callv (As := [.int (iI 5)]) (rest := []) ⟨hx, hb, hml, hown, hts⟩ (mb_X12_joins l dC dI cB cI cJ cZ cQ q _ 5 hI ⟨by decide, by decide⟩ (by exact hp0) hcCI) (cwV 1 hts (goodV (wl_in_2 _ (List.mem_of_getElem? (i := 10) rfl)) (wl_in_2 _ (List.mem_of_getElem? (i := 11) rfl)) (wl_in_2 _ (List.mem_of_getElem? (i := 12) rfl)) (wl_in_0 _ (List.mem_of_getElem? (i := 8) rfl)) (wl_in_1 _ (List.mem_of_getElem? (i := 34) rfl))) rfl rfl rfl (by decide +kernel) ⟨Nat.le_of_ble_eq_true rfl, Nat.le_of_ble_eq_true rfl⟩) hK hDD hA0 hP hS 0 12 wm0 rfl rfl hl.1 (Nat.le_of_ble_eq_true rfl) dX12_goesOn_217 (fun A342 H locs hw343 hP hS => ?_)
          obtain ⟨hI, hf344, hw343⟩ := hw343
          obtain ⟨hc345, hw343⟩ := hw343
          have e_A342_53 : A342 0 53 = (A 0 53) := (hf344.2 53 rfl)
          have r_A342_0_56 : (0 : Int) ≤ (A342 0 56) ∧ (A342 0 56) ≤ 500 := hI 0 56
          have hj := hw343
          have hIj := hI
          have hrj := RI.room hj.1 hIj
          clear hw343
          have e_A342_3 : A342 0 3 = (A 0 3) := (hf344.2 3 rfl)
          have e_A342_4 : A342 0 4 = (A 0 4) := (hf344.2 4 rfl)
          have e_A342_5 : A342 0 5 = (A 0 5) := (hf344.2 5 rfl)
          have e_A342_7 : A342 0 7 = (A 0 7) := (hf344.2 7 rfl)
          have e_A342_8 : A342 0 8 = (A 0 8) := (hf344.2 8 rfl)
          have e_A342_47 : A342 0 47 = (A 0 47) := (hf344.2 47 rfl)
          have e_A342_54 : A342 0 54 = (A 0 54) := (hf344.2 54 rfl)
          have r_A342_0_46 : (0 : Int) ≤ (A342 0 46) ∧ (A342 0 46) ≤ 1600 := hI 0 46
          refine lv_aload_n hx hb dX12_goesOn_220 rfl (lv_at hl 0 rfl) ?_
          refine lv_aload_n hx hb dX12_goesOn_221 rfl (lv_at hl 0 rfl) ?_
          refine lv_bipush (v := iI 60) hx hb dX12_goesOn_222 (by decide +kernel) ?_
          have e_A342_6 : A342 0 6 = (A 0 6) := (hf344.2 6 rfl)
          refine x_calli (As := [.int (iI 60)]) (rest := [.ref (q 0)]) ⟨hx, hb, hml, hown, hts⟩ (mb_X12_isSign l dC dI cB cI cJ cZ cQ q _ 60 hI ⟨by decide, by decide⟩) (cwV 1 hts (goodV (wl_in_0 _ (List.mem_of_getElem? (i := 37) rfl)) (wl_in_0 _ (List.mem_of_getElem? (i := 38) rfl)) (wl_in_0 _ (List.mem_of_getElem? (i := 39) rfl)) (wl_in_0 _ (List.mem_of_getElem? (i := 8) rfl)) (wl_in_0 _ (List.mem_of_getElem? (i := 34) rfl))) rfl rfl rfl (by decide +kernel) ⟨Nat.le_of_ble_eq_true rfl, Nat.le_of_ble_eq_true rfl⟩) hK hDD hA0 hP hS 0 12 wm0 rfl rfl hl.1 (Nat.le_of_ble_eq_true rfl) dX12_goesOn_224 (fun z346 A347 H locs hw348 hP hS => ?_)
          obtain ⟨rfl, hw348⟩ := hw348
          have rz346 : 0 ≤ z346 ∧ z346 ≤ 1 := hw348.1
          replace hw348 := Hd.mk hw348.2
          have ez346 : z346 = z289 := by have a := hw291.out; have b := hw348.out; omega
          refine lv_if_eq (tgt := 235) hx hb dX12_goesOn_227 (by decide) (fun _ => ?_) (fun c349 => False.elim (by have c349 : ¬ z346 = 0 := mt (i_eq0 (rb rz346 (by decide) (by decide))).mpr c349; omega))
          refine lv_aload_n hx hb dX12_goesOn_235 rfl (lv_at hl 0 rfl) ?_
          refine lv_bipush (v := iI 62) hx hb dX12_goesOn_236 (by decide +kernel) ?_
          refine x_calli (As := [.int (iI 62)]) (rest := [.ref (q 0)]) ⟨hx, hb, hml, hown, hts⟩ (mb_X12_isSign l dC dI cB cI cJ cZ cQ q _ 62 hI ⟨by decide, by decide⟩) (cwV 1 hts (goodV (wl_in_0 _ (List.mem_of_getElem? (i := 37) rfl)) (wl_in_0 _ (List.mem_of_getElem? (i := 38) rfl)) (wl_in_0 _ (List.mem_of_getElem? (i := 39) rfl)) (wl_in_0 _ (List.mem_of_getElem? (i := 8) rfl)) (wl_in_0 _ (List.mem_of_getElem? (i := 34) rfl))) rfl rfl rfl (by decide +kernel) ⟨Nat.le_of_ble_eq_true rfl, Nat.le_of_ble_eq_true rfl⟩) hK hDD hA0 hP hS 0 12 wm0 rfl rfl hl.1 (Nat.le_of_ble_eq_true rfl) dX12_goesOn_238 (fun z350 A351 H locs hw352 hP hS => ?_)
          obtain ⟨rfl, hw352⟩ := hw352
          have rz350 : 0 ≤ z350 ∧ z350 ≤ 1 := hw352.1
          replace hw352 := Hd.mk hw352.2
          have ez350 : z350 = z338 := by have a := hw340.out; have b := hw352.out; omega
          refine lv_if_eq (tgt := 249) hx hb dX12_goesOn_241 (by decide) (fun c353 => False.elim (by have c353 : z350 = 0 := (i_eq0 (rb rz350 (by decide) (by decide))).mp c353; omega)) (fun _ => ?_)
          refine lv_bipush (v := iI 18) hx hb dX12_goesOn_244 (by decide +kernel) ?_
          refine lv_goto (tgt := 251) hx hb dX12_goesOn_246 (by decide) ?_
          refine x_callv (As := [.int (iI 18)]) (rest := []) ⟨hx, hb, hml, hown, hts⟩ (mb_X12_holdsBack l dC dI cB cI cJ cZ cQ q _ 18 hI ⟨by decide, by decide⟩ (by omega)) (cwV 1 hts (goodV (wl_in_2 _ (List.mem_of_getElem? (i := 2) rfl)) (wl_in_2 _ (List.mem_of_getElem? (i := 3) rfl)) (wl_in_2 _ (List.mem_of_getElem? (i := 4) rfl)) (wl_in_0 _ (List.mem_of_getElem? (i := 8) rfl)) (wl_in_1 _ (List.mem_of_getElem? (i := 44) rfl))) rfl rfl rfl (by decide +kernel) ⟨Nat.le_of_ble_eq_true rfl, Nat.le_of_ble_eq_true rfl⟩) hK hDD hA0 hP hS 0 12 wm0 rfl rfl hl.1 (Nat.le_of_ble_eq_true rfl) dX12_goesOn_251 (fun A354 H locs hw355 hP hS => ?_)
          obtain ⟨hI, hf356, hw355⟩ := hw355
          have r_A354_0_56 : (0 : Int) ≤ (A354 0 56) ∧ (A354 0 56) ≤ 500 := hI 0 56
          refine lv_aload_n hx hb dX12_goesOn_254 rfl (lv_at hl 0 rfl) ?_
          refine va_get (D := (dC, dI)) (ci := 12) (v := .ref (q 36)) (C := RX12) (T := TX12) (N := 85) hx hb hts hiX12 hown hK hP 0 wm0 rfl 49 (by decide) (hts _ (List.mem_cons_of_mem _ (wl_in_1 _ (List.mem_of_getElem? (i := 47) rfl)))) (fun _ h9 => h9) rfl dX12_goesOn_255 ?_
          refine lv_iload_n hx hb dX12_goesOn_258 rfl (lv_at hl 1 rfl) ?_
          refine lv_iconst (v := iI 1) hx hb dX12_goesOn_259 (by decide +kernel) ?_
          refine x_iast hx hb hK hP hDD hS 36 1 wm36 rfl (by omega) (by decide) dX12_goesOn_260 ws36 (fun H locs hP hS => ?_)
          have hI := hI.st (j := 36) (i := ((A 0 53) - 1).toNat) (v := 1) (show (0 : Int) ≤ 1 ∧ 1 ≤ 2 from (by omega))
          refine lv_aload_n hx hb dX12_goesOn_261 rfl (lv_at hl 0 rfl) ?_
          obtain ⟨A357, hA357⟩ : ∃ A357 : St, A357 = (stA A354 36 ((A 0 53) - 1).toNat 1) := ⟨_, rfl⟩
          rw [← hA357] at hP hI
          have e_A354_4 : A354 0 4 = (A 0 4) := (hf356.2 4 rfl).trans e_A342_4
          have e_A357_4 : A357 0 4 = (A 0 4) := by rw [hA357]; exact e_A354_4
          have e_A354_5 : A354 0 5 = (A 0 5) := (hf356.2 5 rfl).trans e_A342_5
          have e_A357_5 : A357 0 5 = (A 0 5) := by rw [hA357]; exact e_A354_5
          have e_A354_8 : A354 0 8 = (A 0 8) := (hf356.2 8 rfl).trans e_A342_8
          have e_A357_8 : A357 0 8 = (A 0 8) := by rw [hA357]; exact e_A354_8
          refine x_callv (As := []) (rest := []) ⟨hx, hb, hml, hown, hts⟩ (mb_X12_ahead l dC dI cB cI cJ cZ cQ q _ hI) (cwV 0 hts (goodV (wl_in_0 _ (List.mem_of_getElem? (i := 40) rfl)) (wl_in_0 _ (List.mem_of_getElem? (i := 41) rfl)) (wl_in_0 _ (List.mem_of_getElem? (i := 42) rfl)) (wl_in_0 _ (List.mem_of_getElem? (i := 8) rfl)) (wl_in_0 _ (List.mem_of_getElem? (i := 20) rfl))) rfl rfl rfl (by decide +kernel) ⟨Nat.le_of_ble_eq_true rfl, Nat.le_of_ble_eq_true rfl⟩) hK hDD hA0 hP hS 0 12 wm0 rfl rfl hl.1 (Nat.le_of_ble_eq_true rfl) dX12_goesOn_262 (fun A358 H locs hw359 hP hS => ?_)
          obtain ⟨hI, hf360, hw359⟩ := hw359
          have r_A358_0_3 : (0 : Int) ≤ (A358 0 3) ∧ (A358 0 3) ≤ 3 := hI 0 3
          have r_A358_0_4 : (0 : Int) ≤ (A358 0 4) ∧ (A358 0 4) ≤ 1600 := hI 0 4
          have r_A358_0_5 : (0 : Int) ≤ (A358 0 5) ∧ (A358 0 5) ≤ 1600 := hI 0 5
          have r_A358_0_8 : (0 : Int) ≤ (A358 0 8) ∧ (A358 0 8) ≤ 5 := hI 0 8
          have hw359x := hw359.1
          have hw359y := hw359.2.1
          replace hw359 := Hd.mk hw359
          refine lv_aload_n hx hb dX12_goesOn_265 rfl (lv_at hl 0 rfl) ?_
          refine lv_iconst (v := iI 0) hx hb dX12_goesOn_266 (by decide +kernel) ?_
          refine x_put (D := (dC, dI)) (ci := 12) (v := .int (iI 0)) (ty := .boolean) (C := RX12) (T := TX12) (N := 85) hx hb hts hiX12 tyX12 tyX12_ok nmX12 hown hK hP hDD hS 0 wm0 rfl 57 (by decide) (hts _ (List.mem_cons_of_mem _ (wl_in_2 _ (List.mem_of_getElem? (i := 9) rfl)))) (fun _ h9 => h9) rfl (by decide +kernel) (by decide +kernel) rfl (Nat.le_of_ble_eq_true rfl) dX12_goesOn_267 (wf57 (v := 0)) (fun H locs hP hS => ?_)
          have hI := hI.st (j := 0) (i := 57) (v := 0) (show (0 : Int) ≤ 0 ∧ 0 ≤ 1 from (by omega))
          refine lv_iconst (v := iI 1) hx hb dX12_goesOn_270 (by decide +kernel) ?_
          obtain ⟨A361, hA361⟩ : ∃ A361 : St, A361 = (stA A358 0 57 0) := ⟨_, rfl⟩
          rw [← hA361] at hP hI
          have e_A361_4 : A361 0 4 = (A358 0 4) := by rw [hA361]; exact rfl
          have e_A361_5 : A361 0 5 = (A358 0 5) := by rw [hA361]; exact rfl
          have e_A361_8 : A361 0 8 = (A358 0 8) := by rw [hA361]; exact rfl
          have e_A354_46 : A354 0 46 = (A342 0 46) := (hf356.2 46 rfl)
          have e_A357_46 : A357 0 46 = (A342 0 46) := by rw [hA357]; exact e_A354_46
          have e_A358_46 : A358 0 46 = (A342 0 46) := (hf360.2 46 rfl).trans e_A357_46
          have e_A361_46 : A361 0 46 = (A342 0 46) := by rw [hA361]; exact e_A358_46
          have e_A354_47 : A354 0 47 = (A 0 47) := (hf356.2 47 rfl).trans e_A342_47
          have e_A357_47 : A357 0 47 = (A 0 47) := by rw [hA357]; exact e_A354_47
          have e_A358_47 : A358 0 47 = (A 0 47) := (hf360.2 47 rfl).trans e_A357_47
          have e_A361_47 : A361 0 47 = (A 0 47) := by rw [hA361]; exact e_A358_47
          have e_A361_57 : A361 0 57 = 0 := by rw [hA361]; rfl
          have ca362 : A342 35 = A 35 := (hf344.1 35 (by decide) rfl)
          have ca363 : A361 1 = A358 1 := by rw [hA361]; exact rfl
          have e_A361_3 : A361 0 3 = (A358 0 3) := by rw [hA361]; exact rfl
          have e_A361_7 : A361 0 7 = (A358 0 7) := by rw [hA361]; exact rfl
          have hlt := RI.lt hp0 (by omega)
          have ca364 : A357 40 = A354 40 := by rw [hA357]; exact rfl
          have ca365 : A358 40 = A354 40 := (hf360.1 40 (by decide) rfl).trans ca364
          have ca366 : A361 40 = A354 40 := by rw [hA361]; exact ca365
          have ca367 : A354 29 = A342 29 := (hf356.1 29 (by decide) rfl)
          have ca368 : A357 29 = A342 29 := by rw [hA357]; exact ca367
          have ca369 : A358 29 = A342 29 := (hf360.1 29 (by decide) rfl).trans ca368
          have ca370 : A361 29 = A342 29 := by rw [hA361]; exact ca369
          have ca371 : A354 31 = A342 31 := (hf356.1 31 (by decide) rfl)
          have ca372 : A357 31 = A342 31 := by rw [hA357]; exact ca371
          have ca373 : A358 31 = A342 31 := (hf360.1 31 (by decide) rfl).trans ca372
          have ca374 : A361 31 = A342 31 := by rw [hA361]; exact ca373
          have ca375 : A354 33 = A342 33 := (hf356.1 33 (by decide) rfl)
          have ca376 : A357 33 = A342 33 := by rw [hA357]; exact ca375
          have ca377 : A358 33 = A342 33 := (hf360.1 33 (by decide) rfl).trans ca376
          have ca378 : A361 33 = A342 33 := by rw [hA361]; exact ca377
          have ca379 : A354 35 = A342 35 := (hf356.1 35 (by decide) rfl)
          have ca380 : A357 35 = A342 35 := by rw [hA357]; exact ca379
          have ca381 : A358 35 = A342 35 := (hf360.1 35 (by decide) rfl).trans ca380
          have ca382 : A361 35 = A342 35 := by rw [hA361]; exact ca381
          have ca383 : A354 37 = A342 37 := (hf356.1 37 (by decide) rfl)
          have ca384 : A357 37 = A342 37 := by rw [hA357]; exact ca383
          have ca385 : A358 37 = A342 37 := (hf360.1 37 (by decide) rfl).trans ca384
          have ca386 : A361 37 = A342 37 := by rw [hA361]; exact ca385
          have ca387 : A354 39 = A342 39 := (hf356.1 39 (by decide) rfl)
          have ca388 : A357 39 = A342 39 := by rw [hA357]; exact ca387
          have ca389 : A358 39 = A342 39 := (hf360.1 39 (by decide) rfl).trans ca388
          have ca390 : A361 39 = A342 39 := by rw [hA361]; exact ca389
          have e_A354_53 : A354 0 53 = (A 0 53) := (hf356.2 53 rfl).trans e_A342_53
          have e_A357_53 : A357 0 53 = (A 0 53) := by rw [hA357]; exact e_A354_53
          have e_A358_53 : A358 0 53 = (A 0 53) := (hf360.2 53 rfl).trans e_A357_53
          have e_A361_53 : A361 0 53 = (A 0 53) := by rw [hA361]; exact e_A358_53
          have e_A354_54 : A354 0 54 = (A 0 54) := (hf356.2 54 rfl).trans e_A342_54
          have e_A357_54 : A357 0 54 = (A 0 54) := by rw [hA357]; exact e_A354_54
          have e_A358_54 : A358 0 54 = (A 0 54) := (hf360.2 54 rfl).trans e_A357_54
          have e_A361_54 : A361 0 54 = (A 0 54) := by rw [hA361]; exact e_A358_54
          have e_A357_56 : A357 0 56 = (A354 0 56) := by rw [hA357]; exact rfl
          have e_A358_56 : A358 0 56 = (A354 0 56) := (hf360.2 56 rfl).trans e_A357_56
          have e_A361_56 : A361 0 56 = (A354 0 56) := by rw [hA361]; exact e_A358_56
          exact RET 1 _ _ _ _ _ ⟨hI, fr_def hA361 (fr.sf (fr.trans (fr_def hA357 (fr.st (fr.trans (fr.trans (fr.rf) hf344 rfl rfl) hf356 rfl rfl) (by decide) rfl)) hf360 rfl rfl) rfl), (CI.fr (CI.fr (CI.fr (CI.fr hc345 hf356 rfl rfl) (fr_def hA357 (fr.st (fr.rf (M := [36]) (N := [])) (by decide) rfl)) rfl rfl) hf360 rfl rfl) (fr_def hA361 (fr.sf (fr.rf (M := []) (N := [57])) rfl)) rfl rfl), ⟨by decide, Hd.mk (fun h0 => ⟨fun _ => ⟨by rw [show A361 0 57 = 0 by omega]; exact RI.op (x := 18) (r37 := A342 37) hj.1 hIj (by omega) (by decide) (hj.2.imp id (fun t => by rw [show rk 18 = 5 by decide]; exact t)) (fun _ _ => rfl) (fun h => absurd h (by rw [RI.nn hj.1 rfl]; decide)) ⟨ca370, ca374, ca378, ca382, ca386, ca390, (ca366.trans hw355.2), e_A361_46, (e_A361_47.trans e_A342_47.symm), (e_A361_53.trans e_A342_53.symm), (e_A361_54.trans e_A342_54.symm), (by omega)⟩ (by omega) (by omega) (LX.of ca363 e_A361_3 e_A361_4 e_A361_5 e_A361_7 hw359.out.2.2.1), (PR.fr (PR.fr (PR.fr (PR.fr (PR.fr hp2 hf344 rfl rfl) hf356 rfl rfl) (fr_def hA357 (fr.st (fr.rf (M := [36]) (N := [])) (by decide) rfl)) rfl rfl) hf360 rfl rfl) (fr_def hA361 (fr.sf (fr.rf (M := []) (N := [57])) rfl)) rfl rfl), by omega⟩, fun h => absurd h (by decide)⟩)⟩⟩ hP hS dX12_goesOn_271
        · have c341 : z338 = 0 := (i_eq0 (rb rz338 (by decide) (by decide))).mp c341
          refine lv_aload_n hx hb dX12_goesOn_206 rfl (lv_at hl 0 rfl) ?_
          refine lv_bipush (v := iI 61) hx hb dX12_goesOn_207 (by decide +kernel) ?_
          refine x_calli (As := [.int (iI 61)]) (rest := []) ⟨hx, hb, hml, hown, hts⟩ (mb_X12_isSign l dC dI cB cI cJ cZ cQ q _ 61 hI ⟨by decide, by decide⟩) (cwV 1 hts (goodV (wl_in_0 _ (List.mem_of_getElem? (i := 37) rfl)) (wl_in_0 _ (List.mem_of_getElem? (i := 38) rfl)) (wl_in_0 _ (List.mem_of_getElem? (i := 39) rfl)) (wl_in_0 _ (List.mem_of_getElem? (i := 8) rfl)) (wl_in_0 _ (List.mem_of_getElem? (i := 34) rfl))) rfl rfl rfl (by decide +kernel) ⟨Nat.le_of_ble_eq_true rfl, Nat.le_of_ble_eq_true rfl⟩) hK hDD hA0 hP hS 0 12 wm0 rfl rfl hl.1 (Nat.le_of_ble_eq_true rfl) dX12_goesOn_209 (fun z391 A392 H locs hw393 hP hS => ?_)
          obtain ⟨rfl, hw393⟩ := hw393
          have rz391 : 0 ≤ z391 ∧ z391 ≤ 1 := hw393.1
          replace hw393 := Hd.mk hw393.2
          refine lv_if_eq (tgt := 272) hx hb dX12_goesOn_212 (by decide) (fun c394 => ?_) (fun c394 => ?_)
          · have c394 : z391 = 0 := (i_eq0 (rb rz391 (by decide) (by decide))).mp c394
            exact mb_X12_goesOn_c272 l dC dI cB cI cJ cZ cQ q A hI0 hp0 hp1 hp2 hp3 hcCI p e s m below meth c Q AS hx hb hml hown hts hK hDD hA0 RET _ _ _ z1 z2 (by omega) (by omega) hz1 hP hS (lv_sub hl [0, 1, 2, 3] rfl)
          · have c394 : ¬ z391 = 0 := mt (i_eq0 (rb rz391 (by decide) (by decide))).mpr c394
            have hw393b := hw393.out.mp (by omega)
            refine lv_aload_n hx hb dX12_goesOn_215 rfl (lv_at hl 0 rfl) ?_
            refine lv_iconst (v := iI 5) hx hb dX12_goesOn_216 (by decide +kernel) ?_
            refine x_callv (As := [.int (iI 5)]) (rest := []) ⟨hx, hb, hml, hown, hts⟩ (mb_X12_joins l dC dI cB cI cJ cZ cQ q _ 5 hI ⟨by decide, by decide⟩ (by exact hp0) hcCI) (cwV 1 hts (goodV (wl_in_2 _ (List.mem_of_getElem? (i := 10) rfl)) (wl_in_2 _ (List.mem_of_getElem? (i := 11) rfl)) (wl_in_2 _ (List.mem_of_getElem? (i := 12) rfl)) (wl_in_0 _ (List.mem_of_getElem? (i := 8) rfl)) (wl_in_1 _ (List.mem_of_getElem? (i := 34) rfl))) rfl rfl rfl (by decide +kernel) ⟨Nat.le_of_ble_eq_true rfl, Nat.le_of_ble_eq_true rfl⟩) hK hDD hA0 hP hS 0 12 wm0 rfl rfl hl.1 (Nat.le_of_ble_eq_true rfl) dX12_goesOn_217 (fun A395 H locs hw396 hP hS => ?_)
            obtain ⟨hI, hf397, hw396⟩ := hw396
            obtain ⟨hc398, hw396⟩ := hw396
            have e_A395_53 : A395 0 53 = (A 0 53) := (hf397.2 53 rfl)
            have r_A395_0_56 : (0 : Int) ≤ (A395 0 56) ∧ (A395 0 56) ≤ 500 := hI 0 56
            have hj := hw396
            have hIj := hI
            have hrj := RI.room hj.1 hIj
            clear hw396
            have e_A395_3 : A395 0 3 = (A 0 3) := (hf397.2 3 rfl)
            have e_A395_4 : A395 0 4 = (A 0 4) := (hf397.2 4 rfl)
            have e_A395_5 : A395 0 5 = (A 0 5) := (hf397.2 5 rfl)
            have e_A395_7 : A395 0 7 = (A 0 7) := (hf397.2 7 rfl)
            have e_A395_8 : A395 0 8 = (A 0 8) := (hf397.2 8 rfl)
            have e_A395_47 : A395 0 47 = (A 0 47) := (hf397.2 47 rfl)
            have e_A395_54 : A395 0 54 = (A 0 54) := (hf397.2 54 rfl)
            have r_A395_0_46 : (0 : Int) ≤ (A395 0 46) ∧ (A395 0 46) ≤ 1600 := hI 0 46
            refine lv_aload_n hx hb dX12_goesOn_220 rfl (lv_at hl 0 rfl) ?_
            refine lv_aload_n hx hb dX12_goesOn_221 rfl (lv_at hl 0 rfl) ?_
            refine lv_bipush (v := iI 60) hx hb dX12_goesOn_222 (by decide +kernel) ?_
            have e_A395_6 : A395 0 6 = (A 0 6) := (hf397.2 6 rfl)
            refine x_calli (As := [.int (iI 60)]) (rest := [.ref (q 0)]) ⟨hx, hb, hml, hown, hts⟩ (mb_X12_isSign l dC dI cB cI cJ cZ cQ q _ 60 hI ⟨by decide, by decide⟩) (cwV 1 hts (goodV (wl_in_0 _ (List.mem_of_getElem? (i := 37) rfl)) (wl_in_0 _ (List.mem_of_getElem? (i := 38) rfl)) (wl_in_0 _ (List.mem_of_getElem? (i := 39) rfl)) (wl_in_0 _ (List.mem_of_getElem? (i := 8) rfl)) (wl_in_0 _ (List.mem_of_getElem? (i := 34) rfl))) rfl rfl rfl (by decide +kernel) ⟨Nat.le_of_ble_eq_true rfl, Nat.le_of_ble_eq_true rfl⟩) hK hDD hA0 hP hS 0 12 wm0 rfl rfl hl.1 (Nat.le_of_ble_eq_true rfl) dX12_goesOn_224 (fun z399 A400 H locs hw401 hP hS => ?_)
            obtain ⟨rfl, hw401⟩ := hw401
            have rz399 : 0 ≤ z399 ∧ z399 ≤ 1 := hw401.1
            replace hw401 := Hd.mk hw401.2
            have ez399 : z399 = z289 := by have a := hw291.out; have b := hw401.out; omega
            refine lv_if_eq (tgt := 235) hx hb dX12_goesOn_227 (by decide) (fun _ => ?_) (fun c402 => False.elim (by have c402 : ¬ z399 = 0 := mt (i_eq0 (rb rz399 (by decide) (by decide))).mpr c402; omega))
            refine lv_aload_n hx hb dX12_goesOn_235 rfl (lv_at hl 0 rfl) ?_
            refine lv_bipush (v := iI 62) hx hb dX12_goesOn_236 (by decide +kernel) ?_
            refine x_calli (As := [.int (iI 62)]) (rest := [.ref (q 0)]) ⟨hx, hb, hml, hown, hts⟩ (mb_X12_isSign l dC dI cB cI cJ cZ cQ q _ 62 hI ⟨by decide, by decide⟩) (cwV 1 hts (goodV (wl_in_0 _ (List.mem_of_getElem? (i := 37) rfl)) (wl_in_0 _ (List.mem_of_getElem? (i := 38) rfl)) (wl_in_0 _ (List.mem_of_getElem? (i := 39) rfl)) (wl_in_0 _ (List.mem_of_getElem? (i := 8) rfl)) (wl_in_0 _ (List.mem_of_getElem? (i := 34) rfl))) rfl rfl rfl (by decide +kernel) ⟨Nat.le_of_ble_eq_true rfl, Nat.le_of_ble_eq_true rfl⟩) hK hDD hA0 hP hS 0 12 wm0 rfl rfl hl.1 (Nat.le_of_ble_eq_true rfl) dX12_goesOn_238 (fun z403 A404 H locs hw405 hP hS => ?_)
            obtain ⟨rfl, hw405⟩ := hw405
            have rz403 : 0 ≤ z403 ∧ z403 ≤ 1 := hw405.1
            replace hw405 := Hd.mk hw405.2
            have ez403 : z403 = z338 := by have a := hw340.out; have b := hw405.out; omega
            refine lv_if_eq (tgt := 249) hx hb dX12_goesOn_241 (by decide) (fun _ => ?_) (fun c406 => False.elim (by have c406 : ¬ z403 = 0 := mt (i_eq0 (rb rz403 (by decide) (by decide))).mpr c406; omega))
            refine lv_bipush (v := iI 19) hx hb dX12_goesOn_249 (by decide +kernel) ?_
            refine x_callv (As := [.int (iI 19)]) (rest := []) ⟨hx, hb, hml, hown, hts⟩ (mb_X12_holdsBack l dC dI cB cI cJ cZ cQ q _ 19 hI ⟨by decide, by decide⟩ (by omega)) (cwV 1 hts (goodV (wl_in_2 _ (List.mem_of_getElem? (i := 2) rfl)) (wl_in_2 _ (List.mem_of_getElem? (i := 3) rfl)) (wl_in_2 _ (List.mem_of_getElem? (i := 4) rfl)) (wl_in_0 _ (List.mem_of_getElem? (i := 8) rfl)) (wl_in_1 _ (List.mem_of_getElem? (i := 44) rfl))) rfl rfl rfl (by decide +kernel) ⟨Nat.le_of_ble_eq_true rfl, Nat.le_of_ble_eq_true rfl⟩) hK hDD hA0 hP hS 0 12 wm0 rfl rfl hl.1 (Nat.le_of_ble_eq_true rfl) dX12_goesOn_251 (fun A407 H locs hw408 hP hS => ?_)
            obtain ⟨hI, hf409, hw408⟩ := hw408
            have r_A407_0_56 : (0 : Int) ≤ (A407 0 56) ∧ (A407 0 56) ≤ 500 := hI 0 56
            refine lv_aload_n hx hb dX12_goesOn_254 rfl (lv_at hl 0 rfl) ?_
            refine va_get (D := (dC, dI)) (ci := 12) (v := .ref (q 36)) (C := RX12) (T := TX12) (N := 85) hx hb hts hiX12 hown hK hP 0 wm0 rfl 49 (by decide) (hts _ (List.mem_cons_of_mem _ (wl_in_1 _ (List.mem_of_getElem? (i := 47) rfl)))) (fun _ h9 => h9) rfl dX12_goesOn_255 ?_
            refine lv_iload_n hx hb dX12_goesOn_258 rfl (lv_at hl 1 rfl) ?_
            refine lv_iconst (v := iI 1) hx hb dX12_goesOn_259 (by decide +kernel) ?_
            refine x_iast hx hb hK hP hDD hS 36 1 wm36 rfl (by omega) (by decide) dX12_goesOn_260 ws36 (fun H locs hP hS => ?_)
            have hI := hI.st (j := 36) (i := ((A 0 53) - 1).toNat) (v := 1) (show (0 : Int) ≤ 1 ∧ 1 ≤ 2 from (by omega))
            refine lv_aload_n hx hb dX12_goesOn_261 rfl (lv_at hl 0 rfl) ?_
            obtain ⟨A410, hA410⟩ : ∃ A410 : St, A410 = (stA A407 36 ((A 0 53) - 1).toNat 1) := ⟨_, rfl⟩
            rw [← hA410] at hP hI
            have e_A407_4 : A407 0 4 = (A 0 4) := (hf409.2 4 rfl).trans e_A395_4
            have e_A410_4 : A410 0 4 = (A 0 4) := by rw [hA410]; exact e_A407_4
            have e_A407_5 : A407 0 5 = (A 0 5) := (hf409.2 5 rfl).trans e_A395_5
            have e_A410_5 : A410 0 5 = (A 0 5) := by rw [hA410]; exact e_A407_5
            have e_A407_8 : A407 0 8 = (A 0 8) := (hf409.2 8 rfl).trans e_A395_8
            have e_A410_8 : A410 0 8 = (A 0 8) := by rw [hA410]; exact e_A407_8
            refine x_callv (As := []) (rest := []) ⟨hx, hb, hml, hown, hts⟩ (mb_X12_ahead l dC dI cB cI cJ cZ cQ q _ hI) (cwV 0 hts (goodV (wl_in_0 _ (List.mem_of_getElem? (i := 40) rfl)) (wl_in_0 _ (List.mem_of_getElem? (i := 41) rfl)) (wl_in_0 _ (List.mem_of_getElem? (i := 42) rfl)) (wl_in_0 _ (List.mem_of_getElem? (i := 8) rfl)) (wl_in_0 _ (List.mem_of_getElem? (i := 20) rfl))) rfl rfl rfl (by decide +kernel) ⟨Nat.le_of_ble_eq_true rfl, Nat.le_of_ble_eq_true rfl⟩) hK hDD hA0 hP hS 0 12 wm0 rfl rfl hl.1 (Nat.le_of_ble_eq_true rfl) dX12_goesOn_262 (fun A411 H locs hw412 hP hS => ?_)
            obtain ⟨hI, hf413, hw412⟩ := hw412
            have r_A411_0_3 : (0 : Int) ≤ (A411 0 3) ∧ (A411 0 3) ≤ 3 := hI 0 3
            have r_A411_0_4 : (0 : Int) ≤ (A411 0 4) ∧ (A411 0 4) ≤ 1600 := hI 0 4
            have r_A411_0_5 : (0 : Int) ≤ (A411 0 5) ∧ (A411 0 5) ≤ 1600 := hI 0 5
            have r_A411_0_8 : (0 : Int) ≤ (A411 0 8) ∧ (A411 0 8) ≤ 5 := hI 0 8
            have hw412x := hw412.1
            have hw412y := hw412.2.1
            replace hw412 := Hd.mk hw412
            refine lv_aload_n hx hb dX12_goesOn_265 rfl (lv_at hl 0 rfl) ?_
            refine lv_iconst (v := iI 0) hx hb dX12_goesOn_266 (by decide +kernel) ?_
            refine x_put (D := (dC, dI)) (ci := 12) (v := .int (iI 0)) (ty := .boolean) (C := RX12) (T := TX12) (N := 85) hx hb hts hiX12 tyX12 tyX12_ok nmX12 hown hK hP hDD hS 0 wm0 rfl 57 (by decide) (hts _ (List.mem_cons_of_mem _ (wl_in_2 _ (List.mem_of_getElem? (i := 9) rfl)))) (fun _ h9 => h9) rfl (by decide +kernel) (by decide +kernel) rfl (Nat.le_of_ble_eq_true rfl) dX12_goesOn_267 (wf57 (v := 0)) (fun H locs hP hS => ?_)
            have hI := hI.st (j := 0) (i := 57) (v := 0) (show (0 : Int) ≤ 0 ∧ 0 ≤ 1 from (by omega))
            refine lv_iconst (v := iI 1) hx hb dX12_goesOn_270 (by decide +kernel) ?_
            obtain ⟨A414, hA414⟩ : ∃ A414 : St, A414 = (stA A411 0 57 0) := ⟨_, rfl⟩
            rw [← hA414] at hP hI
            have e_A414_4 : A414 0 4 = (A411 0 4) := by rw [hA414]; exact rfl
            have e_A414_5 : A414 0 5 = (A411 0 5) := by rw [hA414]; exact rfl
            have e_A414_8 : A414 0 8 = (A411 0 8) := by rw [hA414]; exact rfl
            have e_A407_46 : A407 0 46 = (A395 0 46) := (hf409.2 46 rfl)
            have e_A410_46 : A410 0 46 = (A395 0 46) := by rw [hA410]; exact e_A407_46
            have e_A411_46 : A411 0 46 = (A395 0 46) := (hf413.2 46 rfl).trans e_A410_46
            have e_A414_46 : A414 0 46 = (A395 0 46) := by rw [hA414]; exact e_A411_46
            have e_A407_47 : A407 0 47 = (A 0 47) := (hf409.2 47 rfl).trans e_A395_47
            have e_A410_47 : A410 0 47 = (A 0 47) := by rw [hA410]; exact e_A407_47
            have e_A411_47 : A411 0 47 = (A 0 47) := (hf413.2 47 rfl).trans e_A410_47
            have e_A414_47 : A414 0 47 = (A 0 47) := by rw [hA414]; exact e_A411_47
            have e_A414_57 : A414 0 57 = 0 := by rw [hA414]; rfl
            have ca415 : A395 35 = A 35 := (hf397.1 35 (by decide) rfl)
            have ca416 : A414 1 = A411 1 := by rw [hA414]; exact rfl
            have e_A414_3 : A414 0 3 = (A411 0 3) := by rw [hA414]; exact rfl
            have e_A414_7 : A414 0 7 = (A411 0 7) := by rw [hA414]; exact rfl
            have hlt := RI.lt hp0 (by omega)
            have ca417 : A410 40 = A407 40 := by rw [hA410]; exact rfl
            have ca418 : A411 40 = A407 40 := (hf413.1 40 (by decide) rfl).trans ca417
            have ca419 : A414 40 = A407 40 := by rw [hA414]; exact ca418
            have ca420 : A407 29 = A395 29 := (hf409.1 29 (by decide) rfl)
            have ca421 : A410 29 = A395 29 := by rw [hA410]; exact ca420
            have ca422 : A411 29 = A395 29 := (hf413.1 29 (by decide) rfl).trans ca421
            have ca423 : A414 29 = A395 29 := by rw [hA414]; exact ca422
            have ca424 : A407 31 = A395 31 := (hf409.1 31 (by decide) rfl)
            have ca425 : A410 31 = A395 31 := by rw [hA410]; exact ca424
            have ca426 : A411 31 = A395 31 := (hf413.1 31 (by decide) rfl).trans ca425
            have ca427 : A414 31 = A395 31 := by rw [hA414]; exact ca426
            have ca428 : A407 33 = A395 33 := (hf409.1 33 (by decide) rfl)
            have ca429 : A410 33 = A395 33 := by rw [hA410]; exact ca428
            have ca430 : A411 33 = A395 33 := (hf413.1 33 (by decide) rfl).trans ca429
            have ca431 : A414 33 = A395 33 := by rw [hA414]; exact ca430
            have ca432 : A407 35 = A395 35 := (hf409.1 35 (by decide) rfl)
            have ca433 : A410 35 = A395 35 := by rw [hA410]; exact ca432
            have ca434 : A411 35 = A395 35 := (hf413.1 35 (by decide) rfl).trans ca433
            have ca435 : A414 35 = A395 35 := by rw [hA414]; exact ca434
            have ca436 : A407 37 = A395 37 := (hf409.1 37 (by decide) rfl)
            have ca437 : A410 37 = A395 37 := by rw [hA410]; exact ca436
            have ca438 : A411 37 = A395 37 := (hf413.1 37 (by decide) rfl).trans ca437
            have ca439 : A414 37 = A395 37 := by rw [hA414]; exact ca438
            have ca440 : A407 39 = A395 39 := (hf409.1 39 (by decide) rfl)
            have ca441 : A410 39 = A395 39 := by rw [hA410]; exact ca440
            have ca442 : A411 39 = A395 39 := (hf413.1 39 (by decide) rfl).trans ca441
            have ca443 : A414 39 = A395 39 := by rw [hA414]; exact ca442
            have e_A407_53 : A407 0 53 = (A 0 53) := (hf409.2 53 rfl).trans e_A395_53
            have e_A410_53 : A410 0 53 = (A 0 53) := by rw [hA410]; exact e_A407_53
            have e_A411_53 : A411 0 53 = (A 0 53) := (hf413.2 53 rfl).trans e_A410_53
            have e_A414_53 : A414 0 53 = (A 0 53) := by rw [hA414]; exact e_A411_53
            have e_A407_54 : A407 0 54 = (A 0 54) := (hf409.2 54 rfl).trans e_A395_54
            have e_A410_54 : A410 0 54 = (A 0 54) := by rw [hA410]; exact e_A407_54
            have e_A411_54 : A411 0 54 = (A 0 54) := (hf413.2 54 rfl).trans e_A410_54
            have e_A414_54 : A414 0 54 = (A 0 54) := by rw [hA414]; exact e_A411_54
            have e_A410_56 : A410 0 56 = (A407 0 56) := by rw [hA410]; exact rfl
            have e_A411_56 : A411 0 56 = (A407 0 56) := (hf413.2 56 rfl).trans e_A410_56
            have e_A414_56 : A414 0 56 = (A407 0 56) := by rw [hA414]; exact e_A411_56
            exact RET 1 _ _ _ _ _ ⟨hI, fr_def hA414 (fr.sf (fr.trans (fr_def hA410 (fr.st (fr.trans (fr.trans (fr.rf) hf397 rfl rfl) hf409 rfl rfl) (by decide) rfl)) hf413 rfl rfl) rfl), (CI.fr (CI.fr (CI.fr (CI.fr hc398 hf409 rfl rfl) (fr_def hA410 (fr.st (fr.rf (M := [36]) (N := [])) (by decide) rfl)) rfl rfl) hf413 rfl rfl) (fr_def hA414 (fr.sf (fr.rf (M := []) (N := [57])) rfl)) rfl rfl), ⟨by decide, Hd.mk (fun h0 => ⟨fun _ => ⟨by rw [show A414 0 57 = 0 by omega]; exact RI.op (x := 19) (r37 := A395 37) hj.1 hIj (by omega) (by decide) (hj.2.imp id (fun t => by rw [show rk 19 = 5 by decide]; exact t)) (fun _ _ => rfl) (fun h => absurd h (by rw [RI.nn hj.1 rfl]; decide)) ⟨ca423, ca427, ca431, ca435, ca439, ca443, (ca419.trans hw408.2), e_A414_46, (e_A414_47.trans e_A395_47.symm), (e_A414_53.trans e_A395_53.symm), (e_A414_54.trans e_A395_54.symm), (by omega)⟩ (by omega) (by omega) (LX.of ca416 e_A414_3 e_A414_4 e_A414_5 e_A414_7 hw412.out.2.2.1), (PR.fr (PR.fr (PR.fr (PR.fr (PR.fr hp2 hf397 rfl rfl) hf409 rfl rfl) (fr_def hA410 (fr.st (fr.rf (M := [36]) (N := [])) (by decide) rfl)) rfl rfl) hf413 rfl rfl) (fr_def hA414 (fr.sf (fr.rf (M := []) (N := [57])) rfl)) rfl rfl), by omega⟩, fun h => absurd h (by decide)⟩)⟩⟩ hP hS dX12_goesOn_271
