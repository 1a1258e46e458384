set_option maxHeartbeats 4000000 in
set_option maxRecDepth 100000 in
theorem mb_X12_goesOn_c387 (l : Launch) (dC : Nat → ClassId) (dI : Nat → Nat → Nat) (cB cI cJ cZ cQ : ClassId) (q : Nat → Nat) (A : St) (hI : IM A) (hp0 : RI 1 A) (hp1 : A 0 8 = 0) (hp2 : PR A) (hp3 : A 0 57 = 1) (hp4 : SP A) (hcCI : CI A) (p : Program) (e : Env) (s : State) (m : MethodId) (below : List Frame) (meth : Method) (c : Code) (Q : State → Prop) (AS : Nat → Prop) (hx : p.tables.exec = Jvm.exec) (hb : c.code = cX12_goesOn) (hml : c.maxLocals = 5) (hown : s.vm.findClass RX12 = some m.cls) (hts : ∀ w ∈ ws_mb_X12_goesOn, w.before [.ref (q 0)].toArray s = true) (hK : va_K (dC, dI) vwCl (tyA cB cI cJ cZ cQ) s) (hDD : ∀ A', va_D AS (WM cI cJ cZ q A')) (hA0 : ∀ b : Nat, s.heap.size ≤ b → AS b) (RET : ∀ (z : Int) (u : St) (H : Heap) (locs : List Loc) (pc : Nat) (ls : Array Slot), ((fun z u => r_X12_goesOn A z u ∧ IM u ∧ fr [33, 34, 35, 36, 37, 40] [3, 4, 5, 6, 7, 8, 9, 46, 53, 54, 56, 57] A u ∧ CI u ∧ ((0 ≤ z ∧ z ≤ 1) ∧ (Hd (u 0 8 = 0 → (z = 1 → RI (u 0 57) u ∧ (PR u ∧ SP u) ∧ A 0 4 + 1 ≤ u 0 4) ∧ (z = 0 → DP (u 33) (sA u) (1600 * u 0 47 + u 0 46) 1 ∧ CB u ∧ A 0 4 ≤ u 0 4))))) z u) → va_P (dC, dI) vwCl (WM cI cJ cZ q u) H → va_S AS s.heap H locs → decode cX12_goesOn pc = .ok (.ireturn, 1) → W p l e (headSpec ws_mb_X12_goesOn ({ frames := 2, cells := 0, slots := 0, locals := 47 } : Room)).room s m [.ref (q 0)].toArray below meth c H locs 0 0 Q (F0 m pc ls [.int (iI z)])) (H : Heap) (locs : List Loc) (ls : Array Slot) (z1 z2 : Int) (rz1 : (0 : Int) ≤ z1 ∧ z1 ≤ 5) (rz2 : (0 : Int) ≤ z2 ∧ z2 ≤ 1) (hz1 : z1 = A 35 ((A 0 53) - 1).toNat) (hk7 : ∀ (z : Int) (u : St), (d_X12_goesOn_7 A z u z1 z2) → r_X12_goesOn A z u) (hP : va_P (dC, dI) vwCl (WM cI cJ cZ q A) H) (hS : va_S AS s.heap H locs) (hl : lv_has ls 5 [(0, .ref (q 0)), (1, .int (iI ((A 0 53) - 1))), (2, .int (iI z1)), (3, .int (iI z2))]) : W p l e (headSpec ws_mb_X12_goesOn ({ frames := 2, cells := 0, slots := 0, locals := 47 } : Room)).room s m [.ref (q 0)].toArray below meth c H locs 0 0 Q (F0 m 387 ls []) := by
  have hiX12 : ∀ w ∈ u_ws RX12 TX12 85, w ∈ ws_mb_X12_goesOn := fun w h => List.mem_cons_of_mem _ (wx_lay w h)
  have hI0 := hI
  have hdp := RI.deep hp0 hI0
  have hrm := RI.room hp0 hI0
  have r_A_0_3 : (0 : Int) ≤ (A 0 3) ∧ (A 0 3) ≤ 3 := hI 0 3
  have r_A_0_4 : (0 : Int) ≤ (A 0 4) ∧ (A 0 4) ≤ 1600 := hI 0 4
  have r_A_0_5 : (0 : Int) ≤ (A 0 5) ∧ (A 0 5) ≤ 1600 := hI 0 5
  have r_A_0_7 : (-9223372036854775808 : Int) ≤ (A 0 7) ∧ (A 0 7) ≤ 9223372036854775807 := hI 0 7
  have r_A_0_8 : (0 : Int) ≤ (A 0 8) ∧ (A 0 8) ≤ 5 := hI 0 8
  have r_A_0_46 : (0 : Int) ≤ (A 0 46) ∧ (A 0 46) ≤ 1600 := hI 0 46
  have r_A_0_47 : (0 : Int) ≤ (A 0 47) ∧ (A 0 47) ≤ 1 := hI 0 47
  have r_A_0_53 : (0 : Int) ≤ (A 0 53) ∧ (A 0 53) ≤ 20 := hI 0 53
  have r_A_0_54 : (0 : Int) ≤ (A 0 54) ∧ (A 0 54) ≤ 8 := hI 0 54
  have r_A_0_56 : (0 : Int) ≤ (A 0 56) ∧ (A 0 56) ≤ 500 := hI 0 56
  have hop := hp0.1
  refine lv_iload_n hx hb dX12_goesOn_387 rfl (lv_at hl 3 rfl) ?_
  refine lv_if_eq (tgt := 409) hx hb dX12_goesOn_388 (by decide) (fun c550 => ?_) (fun c550 => ?_)
  · have c550 : z2 = 0 := (i_eq0 (rb rz2 (by decide) (by decide))).mp c550
    exact mb_X12_goesOn_c409 l dC dI cB cI cJ cZ cQ q A hI0 hp0 hp1 hp2 hp3 hp4 hcCI p e s m below meth c Q AS hx hb hml hown hts hK hDD hA0 RET _ _ _ z1 (by omega) hz1 _ hI (fr.rf) (fun zq uq hq => hk7 _ _ (u_d_X12_goesOn_7 (Or.inl ⟨c550, hq⟩))) hP hS (lv_sub hl [0, 1, 2] rfl)
  · have c550 : ¬ z2 = 0 := mt (i_eq0 (rb rz2 (by decide) (by decide))).mpr c550
    refine lv_aload_n hx hb dX12_goesOn_391 rfl (lv_at hl 0 rfl) ?_
    refine va_get (D := (dC, dI)) (ci := 12) (v := .ref (q 36)) (C := RX12) (T := TX12) (N := 85) hx hb hts hiX12 hown hK hP 0 wm0 rfl 49 (by decide) (hts _ (List.mem_cons_of_mem _ (wl_in_1 _ (List.mem_of_getElem? (i := 47) rfl)))) (fun _ h9 => h9) rfl dX12_goesOn_392 ?_
    refine lv_iload_n hx hb dX12_goesOn_395 rfl (lv_at hl 1 rfl) ?_
    refine x_iald hx hb hK hP 36 1 wm36 rfl (by omega) (by decide) dX12_goesOn_396 (fun z552 hz552 => ?_)
    have rz552 : (0 : Int) ≤ z552 ∧ z552 ≤ 2 := by rw [hz552]; exact hI 36 _
    have gz552 := Hd.mk hz552
    have hz552 : z552 = A 36 ((A 0 53) - 1).toNat := hz552
    refine lv_if_ne (tgt := 409) hx hb dX12_goesOn_397 (by decide) (fun c553 => ?_) (fun c553 => ?_)
    · have c553 : ¬ z552 = 0 := mt (i_eq0 (rb rz552 (by decide) (by decide))).mpr c553
      exact mb_X12_goesOn_c409 l dC dI cB cI cJ cZ cQ q A hI0 hp0 hp1 hp2 hp3 hp4 hcCI p e s m below meth c Q AS hx hb hml hown hts hK hDD hA0 RET _ _ _ z1 (by omega) hz1 _ hI (fr.rf) (fun zq uq hq => hk7 _ _ (u_d_X12_goesOn_7 (Or.inr ⟨c550, ⟨z552, gz552.out, (Or.inl ⟨c553, hq⟩)⟩⟩))) hP hS (lv_sub hl [0, 1, 2] rfl)
    · have c553 : z552 = 0 := (i_eq0 (rb rz552 (by decide) (by decide))).mp c553
      refine lv_aload_n hx hb dX12_goesOn_400 rfl (lv_at hl 0 rfl) ?_
      refine lv_iconst (v := iI 1) hx hb dX12_goesOn_401 (by decide +kernel) ?_
      refine lv_aload_n hx hb dX12_goesOn_402 rfl (lv_at hl 0 rfl) ?_
      refine va_get (D := (dC, dI)) (ci := 12) (v := .int (iI (A 0 4))) (C := RX12) (T := TX12) (N := 85) hx hb hts hiX12 hown hK hP 0 wm0 rfl 4 (by decide) (hts _ (List.mem_cons_of_mem _ (wl_in_0 _ (List.mem_of_getElem? (i := 23) rfl)))) (fun _ h9 => h9) rfl dX12_goesOn_403 ?_
      refine x_callv (As := [.int (iI 1), .int (iI (A 0 4))]) (rest := []) ⟨hx, hb, hml, hown, hts⟩ (mc_X12_blame l dC dI cB cI cJ cZ cQ q _ 1 (A 0 4) hI ⟨by decide, by decide⟩ r_A_0_4) (cwV 2 hts (goodV (wl_in_0 _ (List.mem_of_getElem? (i := 31) rfl)) (wl_in_0 _ (List.mem_of_getElem? (i := 32) rfl)) (wl_in_0 _ (List.mem_of_getElem? (i := 33) rfl)) (wl_in_0 _ (List.mem_of_getElem? (i := 8) rfl)) (wl_in_0 _ (List.mem_of_getElem? (i := 15) rfl))) rfl rfl rfl (by decide +kernel) ⟨Nat.le_of_ble_eq_true rfl, Nat.le_of_ble_eq_true rfl⟩) hK hDD hA0 hP hS 0 12 wm0 rfl rfl hl.1 (Nat.le_of_ble_eq_true rfl) dX12_goesOn_406 (fun A554 H locs hw555 hP hS => ?_)
      have ghw555 : q_X12_blame 1 (A 0 4) A A554 := hw555
      obtain ⟨_, hI, hf556, hw555⟩ := hw555
      have r_A554_0_8 : (0 : Int) ≤ (A554 0 8) ∧ (A554 0 8) ≤ 5 := hI 0 8
      exact mb_X12_goesOn_c409 l dC dI cB cI cJ cZ cQ q A hI0 hp0 hp1 hp2 hp3 hp4 hcCI p e s m below meth c Q AS hx hb hml hown hts hK hDD hA0 RET _ _ _ z1 (by omega) hz1 _ hI (fr.trans (fr.rf) hf556 rfl rfl) (fun zq uq hq => hk7 _ _ (u_d_X12_goesOn_7 (Or.inr ⟨c550, ⟨z552, gz552.out, (Or.inr ⟨c553, ⟨A554, ghw555, hq⟩⟩)⟩⟩))) hP hS (lv_sub hl [0, 1, 2] rfl)
