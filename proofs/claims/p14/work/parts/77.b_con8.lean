set_option maxHeartbeats 4000000 in
set_option maxRecDepth 100000 in
theorem mb_X12_goesOn_c175 (l : Launch) (dC : Nat → ClassId) (dI : Nat → Nat → Nat) (cB cI cJ cZ cQ : ClassId) (q : Nat → Nat) (A : St) (hI : IM A) (hp0 : RI 1 A) (hp1 : A 0 8 = 0) (hp2 : PR A) (hp3 : A 0 57 = 1) (hp4 : SP A) (hcCI : CI A) (p : Program) (e : Env) (s : State) (m : MethodId) (below : List Frame) (meth : Method) (c : Code) (Q : State → Prop) (AS : Nat → Prop) (hx : p.tables.exec = Jvm.exec) (hb : c.code = cX12_goesOn) (hml : c.maxLocals = 5) (hown : s.vm.findClass RX12 = some m.cls) (hts : ∀ w ∈ ws_mb_X12_goesOn, w.before [.ref (q 0)].toArray s = true) (hK : va_K (dC, dI) vwCl (tyA cB cI cJ cZ cQ) s) (hDD : ∀ A', va_D AS (WM cI cJ cZ q A')) (hA0 : ∀ b : Nat, s.heap.size ≤ b → AS b) (RET : ∀ (z : Int) (u : St) (H : Heap) (locs : List Loc) (pc : Nat) (ls : Array Slot), ((fun z u => r_X12_goesOn A z u ∧ IM u ∧ fr [33, 34, 35, 36, 37, 40] [3, 4, 5, 6, 7, 8, 9, 46, 53, 54, 56, 57] A u ∧ CI u ∧ ((0 ≤ z ∧ z ≤ 1) ∧ (Hd (u 0 8 = 0 → (z = 1 → RI (u 0 57) u ∧ (PR u ∧ SP u) ∧ A 0 4 + 1 ≤ u 0 4) ∧ (z = 0 → DP (u 33) (sA u) (1600 * u 0 47 + u 0 46) 1 ∧ CB u ∧ A 0 4 ≤ u 0 4))))) z u) → va_P (dC, dI) vwCl (WM cI cJ cZ q u) H → va_S AS s.heap H locs → decode cX12_goesOn pc = .ok (.ireturn, 1) → W p l e (headSpec ws_mb_X12_goesOn ({ frames := 2, cells := 0, slots := 0, locals := 47 } : Room)).room s m [.ref (q 0)].toArray below meth c H locs 0 0 Q (F0 m pc ls [.int (iI z)])) (H : Heap) (locs : List Loc) (ls : Array Slot) (z1 z2 : Int) (rz1 : (0 : Int) ≤ z1 ∧ z1 ≤ 5) (rz2 : (0 : Int) ≤ z2 ∧ z2 ≤ 1) (hz1 : z1 = A 35 ((A 0 53) - 1).toNat) (hk2 : ∀ (z : Int) (u : St), (d_X12_goesOn_2 A z u z1 z2) → r_X12_goesOn A z u) (hP : va_P (dC, dI) vwCl (WM cI cJ cZ q A) H) (hS : va_S AS s.heap H locs) (hl : lv_has ls 5 [(0, .ref (q 0)), (1, .int (iI ((A 0 53) - 1))), (2, .int (iI z1)), (3, .int (iI z2))]) : W p l e (headSpec ws_mb_X12_goesOn ({ frames := 2, cells := 0, slots := 0, locals := 47 } : Room)).room s m [.ref (q 0)].toArray below meth c H locs 0 0 Q (F0 m 175 ls []) := by
  have hiX12 : ∀ w ∈ u_ws RX12 TX12 85, w ∈ ws_mb_X12_goesOn := fun w h => List.mem_cons_of_mem _ (wx_lay w h)
  have hI0 := hI
  have hdp := RI.deep hp0 hI0
  have hrm := RI.room hp0 hI0
  have r_A_0_3 : (0 : Int) ≤ (A 0 3) ∧ (A 0 3) ≤ 3 := hI 0 3
  have r_A_0_4 : (0 : Int) ≤ (A 0 4) ∧ (A 0 4) ≤ 1600 := hI 0 4
  have r_A_0_5 : (0 : Int) ≤ (A 0 5) ∧ (A 0 5) ≤ 1600 := hI 0 5
  have r_A_0_7 : (-9223372036854775808 : Int) ≤ (A 0 7) ∧ (A 0 7) ≤ 9223372036854775807 := hI 0 7
  have r_A_0_8 : (0 : Int) ≤ (A 0 8) ∧ (A 0 8) ≤ 5 := hI 0 8
  have r_A_0_46 : (0 : Int) ≤ (A 0 46) ∧ (A 0 46) ≤ 1600 := hI 0 46
  have r_A_0_47 : (0 : Int) ≤ (A 0 47) ∧ (A 0 47) ≤ 1 := hI 0 47
  have r_A_0_53 : (0 : Int) ≤ (A 0 53) ∧ (A 0 53) ≤ 20 := hI 0 53
  have r_A_0_54 : (0 : Int) ≤ (A 0 54) ∧ (A 0 54) ≤ 8 := hI 0 54
  have r_A_0_56 : (0 : Int) ≤ (A 0 56) ∧ (A 0 56) ≤ 500 := hI 0 56
  have hop := hp0.1
  refine lv_iload_n hx hb dX12_goesOn_175 rfl (lv_at hl 3 rfl) ?_
  refine lv_if_eq (tgt := 272) hx hb dX12_goesOn_176 (by decide) (fun c257 => ?_) (fun c257 => ?_)
  · have c257 : z2 = 0 := (i_eq0 (rb rz2 (by decide) (by decide))).mp c257
    exact mb_X12_goesOn_c272 l dC dI cB cI cJ cZ cQ q A hI0 hp0 hp1 hp2 hp3 hp4 hcCI p e s m below meth c Q AS hx hb hml hown hts hK hDD hA0 RET _ _ _ z1 z2 (by omega) (by omega) hz1 (fun zq uq hq => hk2 _ _ (u_d_X12_goesOn_2 (Or.inl ⟨c257, hq⟩))) hP hS (lv_sub hl [0, 1, 2, 3] rfl)
  · have c257 : ¬ z2 = 0 := mt (i_eq0 (rb rz2 (by decide) (by decide))).mpr c257
    refine lv_aload_n hx hb dX12_goesOn_179 rfl (lv_at hl 0 rfl) ?_
    refine va_get (D := (dC, dI)) (ci := 12) (v := .ref (q 36)) (C := RX12) (T := TX12) (N := 85) hx hb hts hiX12 hown hK hP 0 wm0 rfl 49 (by decide) (hts _ (List.mem_cons_of_mem _ (wl_in_1 _ (List.mem_of_getElem? (i := 47) rfl)))) (fun _ h9 => h9) rfl dX12_goesOn_180 ?_
    refine lv_iload_n hx hb dX12_goesOn_183 rfl (lv_at hl 1 rfl) ?_
    refine x_iald hx hb hK hP 36 1 wm36 rfl (by omega) (by decide) dX12_goesOn_184 (fun z259 hz259 => ?_)
    have rz259 : (0 : Int) ≤ z259 ∧ z259 ≤ 2 := by rw [hz259]; exact hI 36 _
    have gz259 := Hd.mk hz259
    have hz259 : z259 = A 36 ((A 0 53) - 1).toNat := hz259
    refine lv_if_ne (tgt := 272) hx hb dX12_goesOn_185 (by decide) (fun c260 => ?_) (fun c260 => ?_)
    · have c260 : ¬ z259 = 0 := mt (i_eq0 (rb rz259 (by decide) (by decide))).mpr c260
      exact mb_X12_goesOn_c272 l dC dI cB cI cJ cZ cQ q A hI0 hp0 hp1 hp2 hp3 hp4 hcCI p e s m below meth c Q AS hx hb hml hown hts hK hDD hA0 RET _ _ _ z1 z2 (by omega) (by omega) hz1 (fun zq uq hq => hk2 _ _ (u_d_X12_goesOn_2 (Or.inr ⟨c257, ⟨z259, gz259.out, (Or.inl ⟨c260, hq⟩)⟩⟩))) hP hS (lv_sub hl [0, 1, 2, 3] rfl)
    · have c260 : z259 = 0 := (i_eq0 (rb rz259 (by decide) (by decide))).mp c260
      refine lv_aload_n hx hb dX12_goesOn_188 rfl (lv_at hl 0 rfl) ?_
      refine lv_bipush (v := iI 60) hx hb dX12_goesOn_189 (by decide +kernel) ?_
      have r_A_0_6 : (-2147483648 : Int) ≤ (A 0 6) ∧ (A 0 6) ≤ 2147483647 := hI 0 6
      refine x_calli (As := [.int (iI 60)]) (rest := []) ⟨hx, hb, hml, hown, hts⟩ (mb_X12_isSign l dC dI cB cI cJ cZ cQ q _ 60 hI ⟨by decide, by decide⟩) (cwV 1 hts (goodV (wl_in_0 _ (List.mem_of_getElem? (i := 37) rfl)) (wl_in_0 _ (List.mem_of_getElem? (i := 38) rfl)) (wl_in_0 _ (List.mem_of_getElem? (i := 39) rfl)) (wl_in_0 _ (List.mem_of_getElem? (i := 8) rfl)) (wl_in_0 _ (List.mem_of_getElem? (i := 34) rfl))) rfl rfl rfl (by decide +kernel) ⟨Nat.le_of_ble_eq_true rfl, Nat.le_of_ble_eq_true rfl⟩) hK hDD hA0 hP hS 0 12 wm0 rfl rfl hl.1 (Nat.le_of_ble_eq_true rfl) dX12_goesOn_191 (fun z261 A262 H locs hw263 hP hS => ?_)
      obtain ⟨rfl, hw263⟩ := hw263
      have ghw263 : q_X12_isSign 60 A z261 := hw263
      have hw263 := hw263.2
      have rz261 : 0 ≤ z261 ∧ z261 ≤ 1 := hw263.1
      replace hw263 := Hd.mk hw263.2
      refine lv_if_ne (tgt := 215) hx hb dX12_goesOn_194 (by decide) (fun c264 => ?_) (fun c264 => ?_)
      · have c264 : ¬ z261 = 0 := mt (i_eq0 (rb rz261 (by decide) (by decide))).mpr c264
        have hw263b := hw263.out.mp (by omega)
        exact mb_X12_goesOn_c215 l dC dI cB cI cJ cZ cQ q A hI0 hp0 hp1 hp2 hp3 hp4 hcCI p e s m below meth c Q AS hx hb hml hown hts hK hDD hA0 RET _ _ _ z1 z2 (by omega) (by omega) hz1 (by omega) (by omega) (fun zq uq hq => hk2 _ _ (u_d_X12_goesOn_2 (Or.inr ⟨c257, ⟨z259, gz259.out, (Or.inr ⟨c260, ⟨z261, ghw263, (Or.inl ⟨c264, hq⟩)⟩⟩)⟩⟩))) hP hS (lv_sub hl [0, 1, 2, 3] rfl)
      · have c264 : z261 = 0 := (i_eq0 (rb rz261 (by decide) (by decide))).mp c264
        refine lv_aload_n hx hb dX12_goesOn_197 rfl (lv_at hl 0 rfl) ?_
        refine lv_bipush (v := iI 62) hx hb dX12_goesOn_198 (by decide +kernel) ?_
        refine x_calli (As := [.int (iI 62)]) (rest := []) ⟨hx, hb, hml, hown, hts⟩ (mb_X12_isSign l dC dI cB cI cJ cZ cQ q _ 62 hI ⟨by decide, by decide⟩) (cwV 1 hts (goodV (wl_in_0 _ (List.mem_of_getElem? (i := 37) rfl)) (wl_in_0 _ (List.mem_of_getElem? (i := 38) rfl)) (wl_in_0 _ (List.mem_of_getElem? (i := 39) rfl)) (wl_in_0 _ (List.mem_of_getElem? (i := 8) rfl)) (wl_in_0 _ (List.mem_of_getElem? (i := 34) rfl))) rfl rfl rfl (by decide +kernel) ⟨Nat.le_of_ble_eq_true rfl, Nat.le_of_ble_eq_true rfl⟩) hK hDD hA0 hP hS 0 12 wm0 rfl rfl hl.1 (Nat.le_of_ble_eq_true rfl) dX12_goesOn_200 (fun z266 A267 H locs hw268 hP hS => ?_)
        obtain ⟨rfl, hw268⟩ := hw268
        have ghw268 : q_X12_isSign 62 A z266 := hw268
        have hw268 := hw268.2
        have rz266 : 0 ≤ z266 ∧ z266 ≤ 1 := hw268.1
        replace hw268 := Hd.mk hw268.2
        refine lv_if_ne (tgt := 215) hx hb dX12_goesOn_203 (by decide) (fun c269 => ?_) (fun c269 => ?_)
        · have c269 : ¬ z266 = 0 := mt (i_eq0 (rb rz266 (by decide) (by decide))).mpr c269
          have hw268b := hw268.out.mp (by omega)
          exact mb_X12_goesOn_c215 l dC dI cB cI cJ cZ cQ q A hI0 hp0 hp1 hp2 hp3 hp4 hcCI p e s m below meth c Q AS hx hb hml hown hts hK hDD hA0 RET _ _ _ z1 z2 (by omega) (by omega) hz1 (by omega) (by omega) (fun zq uq hq => hk2 _ _ (u_d_X12_goesOn_2 (Or.inr ⟨c257, ⟨z259, gz259.out, (Or.inr ⟨c260, ⟨z261, ghw263, (Or.inr ⟨c264, ⟨z266, ghw268, (Or.inl ⟨c269, hq⟩)⟩⟩)⟩⟩)⟩⟩))) hP hS (lv_sub hl [0, 1, 2, 3] rfl)
        · have c269 : z266 = 0 := (i_eq0 (rb rz266 (by decide) (by decide))).mp c269
          refine lv_aload_n hx hb dX12_goesOn_206 rfl (lv_at hl 0 rfl) ?_
          refine lv_bipush (v := iI 61) hx hb dX12_goesOn_207 (by decide +kernel) ?_
          refine x_calli (As := [.int (iI 61)]) (rest := []) ⟨hx, hb, hml, hown, hts⟩ (mb_X12_isSign l dC dI cB cI cJ cZ cQ q _ 61 hI ⟨by decide, by decide⟩) (cwV 1 hts (goodV (wl_in_0 _ (List.mem_of_getElem? (i := 37) rfl)) (wl_in_0 _ (List.mem_of_getElem? (i := 38) rfl)) (wl_in_0 _ (List.mem_of_getElem? (i := 39) rfl)) (wl_in_0 _ (List.mem_of_getElem? (i := 8) rfl)) (wl_in_0 _ (List.mem_of_getElem? (i := 34) rfl))) rfl rfl rfl (by decide +kernel) ⟨Nat.le_of_ble_eq_true rfl, Nat.le_of_ble_eq_true rfl⟩) hK hDD hA0 hP hS 0 12 wm0 rfl rfl hl.1 (Nat.le_of_ble_eq_true rfl) dX12_goesOn_209 (fun z270 A271 H locs hw272 hP hS => ?_)
          obtain ⟨rfl, hw272⟩ := hw272
          have ghw272 : q_X12_isSign 61 A z270 := hw272
          have hw272 := hw272.2
          have rz270 : 0 ≤ z270 ∧ z270 ≤ 1 := hw272.1
          replace hw272 := Hd.mk hw272.2
          refine lv_if_eq (tgt := 272) hx hb dX12_goesOn_212 (by decide) (fun c273 => ?_) (fun c273 => ?_)
          · have c273 : z270 = 0 := (i_eq0 (rb rz270 (by decide) (by decide))).mp c273
            exact mb_X12_goesOn_c272 l dC dI cB cI cJ cZ cQ q A hI0 hp0 hp1 hp2 hp3 hp4 hcCI p e s m below meth c Q AS hx hb hml hown hts hK hDD hA0 RET _ _ _ z1 z2 (by omega) (by omega) hz1 (fun zq uq hq => hk2 _ _ (u_d_X12_goesOn_2 (Or.inr ⟨c257, ⟨z259, gz259.out, (Or.inr ⟨c260, ⟨z261, ghw263, (Or.inr ⟨c264, ⟨z266, ghw268, (Or.inr ⟨c269, ⟨z270, ghw272, (Or.inl ⟨c273, hq⟩)⟩⟩)⟩⟩)⟩⟩)⟩⟩))) hP hS (lv_sub hl [0, 1, 2, 3] rfl)
          · have c273 : ¬ z270 = 0 := mt (i_eq0 (rb rz270 (by decide) (by decide))).mpr c273
            have hw272b := hw272.out.mp (by omega)
            exact mb_X12_goesOn_c215 l dC dI cB cI cJ cZ cQ q A hI0 hp0 hp1 hp2 hp3 hp4 hcCI p e s m below meth c Q AS hx hb hml hown hts hK hDD hA0 RET _ _ _ z1 z2 (by omega) (by omega) hz1 (by omega) (by omega) (fun zq uq hq => hk2 _ _ (u_d_X12_goesOn_2 (Or.inr ⟨c257, ⟨z259, gz259.out, (Or.inr ⟨c260, ⟨z261, ghw263, (Or.inr ⟨c264, ⟨z266, ghw268, (Or.inr ⟨c269, ⟨z270, ghw272, (Or.inr ⟨c273, hq⟩)⟩⟩)⟩⟩)⟩⟩)⟩⟩))) hP hS (lv_sub hl [0, 1, 2, 3] rfl)
