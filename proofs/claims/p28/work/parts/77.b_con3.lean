set_option maxHeartbeats 4000000 in
set_option maxRecDepth 100000 in
theorem mb_X12_goesOn_c296 (l : Launch) (dC : Nat → ClassId) (dI : Nat → Nat → Nat) (cB cI cJ cZ cQ : ClassId) (q : Nat → Nat) (A : St) (hI : IM A) (hp0 : RI 1 A) (hp1 : A 0 8 = 0) (hp2 : PR A) (hp3 : A 0 57 = 1) (hp4 : SP A) (hcCI : CI A) (p : Program) (e : Env) (s : State) (m : MethodId) (below : List Frame) (meth : Method) (c : Code) (Q : State → Prop) (AS : Nat → Prop) (hx : p.tables.exec = Jvm.exec) (hb : c.code = cX12_goesOn) (hml : c.maxLocals = 5) (hown : s.vm.findClass RX12 = some m.cls) (hts : ∀ w ∈ ws_mb_X12_goesOn, w.before [.ref (q 0)].toArray s = true) (hK : va_K (dC, dI) vwCl (tyA cB cI cJ cZ cQ) s) (hDD : ∀ A', va_D AS (WM cI cJ cZ q A')) (hA0 : ∀ b : Nat, s.heap.size ≤ b → AS b) (RET : ∀ (z : Int) (u : St) (H : Heap) (locs : List Loc) (pc : Nat) (ls : Array Slot), ((fun z u => r_X12_goesOn A z u ∧ IM u ∧ fr [33, 34, 35, 36, 37, 40] [3, 4, 5, 6, 7, 8, 9, 46, 53, 54, 56, 57] A u ∧ CI u ∧ ((0 ≤ z ∧ z ≤ 1) ∧ (Hd (u 0 8 = 0 → (z = 1 → RI (u 0 57) u ∧ (PR u ∧ SP u) ∧ A 0 4 + 1 ≤ u 0 4) ∧ (z = 0 → DP (u 33) (sA u) (1600 * u 0 47 + u 0 46) 1 ∧ CB u ∧ A 0 4 ≤ u 0 4))))) z u) → va_P (dC, dI) vwCl (WM cI cJ cZ q u) H → va_S AS s.heap H locs → decode cX12_goesOn pc = .ok (.ireturn, 1) → W p l e (headSpec ws_mb_X12_goesOn ({ frames := 2, cells := 0, slots := 0, locals := 47 } : Room)).room s m [.ref (q 0)].toArray below meth c H locs 0 0 Q (F0 m pc ls [.int (iI z)])) (H : Heap) (locs : List Loc) (ls : Array Slot) (z1 z2 : Int) (rz1 : (0 : Int) ≤ z1 ∧ z1 ≤ 5) (rz2 : (0 : Int) ≤ z2 ∧ z2 ≤ 1) (hz1 : z1 = A 35 ((A 0 53) - 1).toNat) (hs1 : A 0 3 = 1) (hk5 : ∀ (z : Int) (u : St), (d_X12_goesOn_5 A z u z1 z2) → r_X12_goesOn A z u) (hP : va_P (dC, dI) vwCl (WM cI cJ cZ q A) H) (hS : va_S AS s.heap H locs) (hl : lv_has ls 5 [(0, .ref (q 0)), (1, .int (iI ((A 0 53) - 1))), (2, .int (iI z1)), (3, .int (iI z2))]) : W p l e (headSpec ws_mb_X12_goesOn ({ frames := 2, cells := 0, slots := 0, locals := 47 } : Room)).room s m [.ref (q 0)].toArray below meth c H locs 0 0 Q (F0 m 296 ls []) := by
  have hiX12 : ∀ w ∈ u_ws RX12 TX12 85, w ∈ ws_mb_X12_goesOn := fun w h => List.mem_cons_of_mem _ (wx_lay w h)
  have hI0 := hI
  have hdp := RI.deep hp0 hI0
  have hrm := RI.room hp0 hI0
  have r_A_0_3 : (0 : Int) ≤ (A 0 3) ∧ (A 0 3) ≤ 3 := hI 0 3
  have r_A_0_4 : (0 : Int) ≤ (A 0 4) ∧ (A 0 4) ≤ 1600 := hI 0 4
  have r_A_0_5 : (0 : Int) ≤ (A 0 5) ∧ (A 0 5) ≤ 1600 := hI 0 5
  have r_A_0_7 : (-9223372036854775808 : Int) ≤ (A 0 7) ∧ (A 0 7) ≤ 9223372036854775807 := hI 0 7
  have r_A_0_8 : (0 : Int) ≤ (A 0 8) ∧ (A 0 8) ≤ 5 := hI 0 8
  have r_A_0_46 : (0 : Int) ≤ (A 0 46) ∧ (A 0 46) ≤ 1600 := hI 0 46
  have r_A_0_47 : (0 : Int) ≤ (A 0 47) ∧ (A 0 47) ≤ 1 := hI 0 47
  have r_A_0_53 : (0 : Int) ≤ (A 0 53) ∧ (A 0 53) ≤ 20 := hI 0 53
  have r_A_0_54 : (0 : Int) ≤ (A 0 54) ∧ (A 0 54) ≤ 8 := hI 0 54
  have r_A_0_56 : (0 : Int) ≤ (A 0 56) ∧ (A 0 56) ≤ 500 := hI 0 56
  have hop := hp0.1
  refine lv_aload_n hx hb (dk_at dkX12_goesOn_9 1 rfl) rfl (lv_at hl 0 rfl) ?_
  refine va_get (D := (dC, dI)) (ci := 12) (v := .ref (q 36)) (C := RX12) (T := TX12) (N := 85) hx hb hts hiX12 hown hK hP 0 wm0 rfl 49 (by decide) (hts _ (List.mem_cons_of_mem _ wlq_1_47)) (fun _ h9 => h9) rfl (dk_at dkX12_goesOn_9 2 rfl) ?_
  refine lv_iload_n hx hb (dk_at dkX12_goesOn_9 3 rfl) rfl (lv_at hl 1 rfl) ?_
  refine x_iald hx hb hK hP 36 1 wm36 rfl (by omega) (by decide) (dk_at dkX12_goesOn_9 4 rfl) (fun z436 hz436 => ?_)
  have rz436 : (0 : Int) ≤ z436 ∧ z436 ≤ 2 := by rw [hz436]; exact hI 36 _
  have gz436 := Hd.mk hz436
  have hz436 : z436 = A 36 ((A 0 53) - 1).toNat := hz436
  refine lv_if_ne (tgt := 314) hx hb (dk_at dkX12_goesOn_9 5 rfl) (by decide) (fun c437 => ?_) (fun c437 => ?_)
  · have c437 : ¬ z436 = 0 := mt (i_eq0 (rb rz436 (by decide) (by decide))).mpr c437
    exact mb_X12_goesOn_c314 l dC dI cB cI cJ cZ cQ q A hI0 hp0 hp1 hp2 hp3 hp4 hcCI p e s m below meth c Q AS hx hb hml hown hts hK hDD hA0 RET _ _ _ z1 z2 (by omega) (by omega) hz1 (by omega) _ hI (fr.rf) (fun zq uq hq => hk5 _ _ (u_d_X12_goesOn_5 ⟨z436, gz436.out, (Or.inl ⟨c437, hq⟩)⟩)) hP hS (lv_sub hl [0, 1, 2, 3] rfl)
  · have c437 : z436 = 0 := (i_eq0 (rb rz436 (by decide) (by decide))).mp c437
    refine lv_aload_n hx hb (dk_at dkX12_goesOn_9 6 rfl) rfl (lv_at hl 0 rfl) ?_
    refine lv_iconst (v := iI 1) hx hb (dk_at dkX12_goesOn_9 7 rfl) (by decide +kernel) ?_
    refine lv_aload_n hx hb (dk_at dkX12_goesOn_9 8 rfl) rfl (lv_at hl 0 rfl) ?_
    refine va_get (D := (dC, dI)) (ci := 12) (v := .int (iI (A 0 4))) (C := RX12) (T := TX12) (N := 85) hx hb hts hiX12 hown hK hP 0 wm0 rfl 4 (by decide) (hts _ (List.mem_cons_of_mem _ wlq_0_23)) (fun _ h9 => h9) rfl (dk_at dkX12_goesOn_9 9 rfl) ?_
    refine x_callv (As := [.int (iI 1), .int (iI (A 0 4))]) (rest := []) ⟨hx, hb, hml, hown, hts⟩ (mc_X12_blame l dC dI cB cI cJ cZ cQ q _ 1 (A 0 4) hI ⟨by decide, by decide⟩ r_A_0_4) (cwV 2 hts (goodV wlq_0_31 wlq_0_32 wlq_0_33 wlq_0_8 wlq_0_15) rfl rfl rfl (by decide +kernel) ⟨Nat.le_of_ble_eq_true rfl, Nat.le_of_ble_eq_true rfl⟩) hK hDD hA0 hP hS 0 12 wm0 rfl rfl hl.1 (Nat.le_of_ble_eq_true rfl) (dk_at dkX12_goesOn_9 10 rfl) (fun A439 H locs hw440 hP hS => ?_)
    have ghw440 : q_X12_blame 1 (A 0 4) A A439 := hw440
    obtain ⟨_, hI, hf441, hw440⟩ := hw440
    have r_A439_0_8 : (0 : Int) ≤ (A439 0 8) ∧ (A439 0 8) ≤ 5 := hI 0 8
    exact mb_X12_goesOn_c314 l dC dI cB cI cJ cZ cQ q A hI0 hp0 hp1 hp2 hp3 hp4 hcCI p e s m below meth c Q AS hx hb hml hown hts hK hDD hA0 RET _ _ _ z1 z2 (by omega) (by omega) hz1 (by omega) _ hI (fr.trans (fr.rf) hf441 rfl rfl) (fun zq uq hq => hk5 _ _ (u_d_X12_goesOn_5 ⟨z436, gz436.out, (Or.inr ⟨c437, ⟨A439, ghw440, hq⟩⟩)⟩)) hP hS (lv_sub hl [0, 1, 2, 3] rfl)
set_option maxHeartbeats 4000000 in
set_option maxRecDepth 100000 in
theorem mb_X12_goesOn_c511 (l : Launch) (dC : Nat → ClassId) (dI : Nat → Nat → Nat) (cB cI cJ cZ cQ : ClassId) (q : Nat → Nat) (A : St) (hI : IM A) (hp0 : RI 1 A) (hp1 : A 0 8 = 0) (hp2 : PR A) (hp3 : A 0 57 = 1) (hp4 : SP A) (hcCI : CI A) (p : Program) (e : Env) (s : State) (m : MethodId) (below : List Frame) (meth : Method) (c : Code) (Q : State → Prop) (AS : Nat → Prop) (hx : p.tables.exec = Jvm.exec) (hb : c.code = cX12_goesOn) (hml : c.maxLocals = 5) (hown : s.vm.findClass RX12 = some m.cls) (hts : ∀ w ∈ ws_mb_X12_goesOn, w.before [.ref (q 0)].toArray s = true) (hK : va_K (dC, dI) vwCl (tyA cB cI cJ cZ cQ) s) (hDD : ∀ A', va_D AS (WM cI cJ cZ q A')) (hA0 : ∀ b : Nat, s.heap.size ≤ b → AS b) (RET : ∀ (z : Int) (u : St) (H : Heap) (locs : List Loc) (pc : Nat) (ls : Array Slot), ((fun z u => r_X12_goesOn A z u ∧ IM u ∧ fr [33, 34, 35, 36, 37, 40] [3, 4, 5, 6, 7, 8, 9, 46, 53, 54, 56, 57] A u ∧ CI u ∧ ((0 ≤ z ∧ z ≤ 1) ∧ (Hd (u 0 8 = 0 → (z = 1 → RI (u 0 57) u ∧ (PR u ∧ SP u) ∧ A 0 4 + 1 ≤ u 0 4) ∧ (z = 0 → DP (u 33) (sA u) (1600 * u 0 47 + u 0 46) 1 ∧ CB u ∧ A 0 4 ≤ u 0 4))))) z u) → va_P (dC, dI) vwCl (WM cI cJ cZ q u) H → va_S AS s.heap H locs → decode cX12_goesOn pc = .ok (.ireturn, 1) → W p l e (headSpec ws_mb_X12_goesOn ({ frames := 2, cells := 0, slots := 0, locals := 47 } : Room)).room s m [.ref (q 0)].toArray below meth c H locs 0 0 Q (F0 m pc ls [.int (iI z)])) (H : Heap) (locs : List Loc) (ls : Array Slot) (z1 : Int) (rz1 : (2 : Int) ≤ z1 ∧ z1 ≤ 5) (hz1 : z1 = A 35 ((A 0 53) - 1).toNat) (A576 : St) (hIv : IM A576) (hj575 : fr [] [8, 9] A A576) (f577 : Hd ((A576 0 8) = 0 → (A576 0 3) = 3)) (hk10 : ∀ (z : Int) (u : St), (d_X12_goesOn_10 A z u z1 A576) → r_X12_goesOn A z u) (hP : va_P (dC, dI) vwCl (WM cI cJ cZ q A576) H) (hS : va_S AS s.heap H locs) (hl : lv_has ls 5 [(0, .ref (q 0)), (1, .int (iI ((A 0 53) - 1))), (2, .int (iI z1))]) : W p l e (headSpec ws_mb_X12_goesOn ({ frames := 2, cells := 0, slots := 0, locals := 47 } : Room)).room s m [.ref (q 0)].toArray below meth c H locs 0 0 Q (F0 m 511 ls []) := by
  have hiX12 : ∀ w ∈ u_ws RX12 TX12 85, w ∈ ws_mb_X12_goesOn := fun w h => List.mem_cons_of_mem _ (wx_lay w h)
  have hI0 := hI
  have hdp := RI.deep hp0 hI0
  have hrm := RI.room hp0 hI0
  have r_A_0_3 : (0 : Int) ≤ (A 0 3) ∧ (A 0 3) ≤ 3 := hI 0 3
  have r_A_0_4 : (0 : Int) ≤ (A 0 4) ∧ (A 0 4) ≤ 1600 := hI 0 4
  have r_A_0_5 : (0 : Int) ≤ (A 0 5) ∧ (A 0 5) ≤ 1600 := hI 0 5
  have r_A_0_7 : (-9223372036854775808 : Int) ≤ (A 0 7) ∧ (A 0 7) ≤ 9223372036854775807 := hI 0 7
  have r_A_0_8 : (0 : Int) ≤ (A 0 8) ∧ (A 0 8) ≤ 5 := hI 0 8
  have r_A_0_46 : (0 : Int) ≤ (A 0 46) ∧ (A 0 46) ≤ 1600 := hI 0 46
  have r_A_0_47 : (0 : Int) ≤ (A 0 47) ∧ (A 0 47) ≤ 1 := hI 0 47
  have r_A_0_53 : (0 : Int) ≤ (A 0 53) ∧ (A 0 53) ≤ 20 := hI 0 53
  have r_A_0_54 : (0 : Int) ≤ (A 0 54) ∧ (A 0 54) ≤ 8 := hI 0 54
  have r_A_0_56 : (0 : Int) ≤ (A 0 56) ∧ (A 0 56) ≤ 500 := hI 0 56
  have hop := hp0.1
  have hI := hIv
  refine lv_aload_n hx hb (dk_at dkX12_goesOn_16 8 rfl) rfl (lv_at hl 0 rfl) ?_
  refine va_get (D := (dC, dI)) (ci := 12) (v := .int (iI (A576 0 8))) (C := RX12) (T := TX12) (N := 85) hx hb hts hiX12 hown hK hP 0 wm0 rfl 8 (by decide) (hts _ (List.mem_cons_of_mem _ wlq_0_16)) (fun _ h9 => h9) rfl (dk_at dkX12_goesOn_16 9 rfl) ?_
  have r_A576_0_8 : (0 : Int) ≤ (A576 0 8) ∧ (A576 0 8) ≤ 5 := hI 0 8
  refine lv_if_le (tgt := 520) hx hb (dk_at dkX12_goesOn_16 10 rfl) (by decide) (fun c578 => ?_) (fun c578 => ?_)
  · have c578 : (A576 0 8) ≤ 0 := (i_le0 (rb r_A576_0_8 (by decide) (by decide))).mp c578
    have hD2 := RI.two hp0 hI0 (by rw [← hz1]; omega)
    refine lv_aload_n hx hb (dk_at dkX12_goesOn_16 13 rfl) rfl (lv_at hl 0 rfl) ?_
    refine lv_iconst (v := iI 1) hx hb (dk_at dkX12_goesOn_16 14 rfl) (by decide +kernel) ?_
    refine x_callv (As := [.int (iI 1)]) (rest := []) ⟨hx, hb, hml, hown, hts⟩ (mb_X12_joins l dC dI cB cI cJ cZ cQ q _ 1 hI ⟨by decide, by decide⟩ (by exact (RI1.fr hp0 hj575 rfl rfl)) (CI.fr hcCI hj575 rfl rfl) (SP.fr hp4 hj575 rfl rfl)) (cwV 1 hts (goodV wlq_2_10 wlq_2_11 wlq_2_12 wlq_0_8 wlq_1_34) rfl rfl rfl (by decide +kernel) ⟨Nat.le_of_ble_eq_true rfl, Nat.le_of_ble_eq_true rfl⟩) hK hDD hA0 hP hS 0 12 wm0 rfl rfl hl.1 (Nat.le_of_ble_eq_true rfl) (dk_at dkX12_goesOn_16 15 rfl) (fun A579 H locs hw580 hP hS => ?_)
    have ghw580 : q_X12_joins 1 A576 A579 := hw580
    obtain ⟨_, hI, hf581, hw580⟩ := hw580
    obtain ⟨hc582, hw580⟩ := hw580
    obtain ⟨hc583, hw580⟩ := hw580
    have e_A576_53 : A576 0 53 = (A 0 53) := (hj575.2 53 rfl)
    have e_A579_53 : A579 0 53 = (A 0 53) := (hf581.2 53 rfl).trans e_A576_53
    have r_A579_0_56 : (0 : Int) ≤ (A579 0 56) ∧ (A579 0 56) ≤ 500 := hI 0 56
    have hj1 := hw580.1
    have hj2 := Hd.mk hw580.2
    clear hw580
    have hIj := hI
    have hrj := RI.room hj1 hIj
    have e_A576_3 : A576 0 3 = (A 0 3) := (hj575.2 3 rfl)
    have e_A579_3 : A579 0 3 = (A 0 3) := (hf581.2 3 rfl).trans e_A576_3
    have e_A576_4 : A576 0 4 = (A 0 4) := (hj575.2 4 rfl)
    have e_A579_4 : A579 0 4 = (A 0 4) := (hf581.2 4 rfl).trans e_A576_4
    have e_A576_5 : A576 0 5 = (A 0 5) := (hj575.2 5 rfl)
    have e_A579_5 : A579 0 5 = (A 0 5) := (hf581.2 5 rfl).trans e_A576_5
    have e_A576_7 : A576 0 7 = (A 0 7) := (hj575.2 7 rfl)
    have e_A579_7 : A579 0 7 = (A 0 7) := (hf581.2 7 rfl).trans e_A576_7
    have e_A579_8 : A579 0 8 = (A576 0 8) := (hf581.2 8 rfl)
    have e_A576_47 : A576 0 47 = (A 0 47) := (hj575.2 47 rfl)
    have e_A579_47 : A579 0 47 = (A 0 47) := (hf581.2 47 rfl).trans e_A576_47
    have e_A576_54 : A576 0 54 = (A 0 54) := (hj575.2 54 rfl)
    have e_A579_54 : A579 0 54 = (A 0 54) := (hf581.2 54 rfl).trans e_A576_54
    have r_A579_0_46 : (0 : Int) ≤ (A579 0 46) ∧ (A579 0 46) ≤ 1600 := hI 0 46
    refine lv_aload_n hx hb (dk_at dkX12_goesOn_17 0 rfl) rfl (lv_at hl 0 rfl) ?_
    refine lv_dup hx hb (dk_at dkX12_goesOn_17 1 rfl) rfl ?_
    refine va_get (D := (dC, dI)) (ci := 12) (v := .int (iI (A579 0 53))) (C := RX12) (T := TX12) (N := 85) hx hb hts hiX12 hown hK hP 0 wm0 rfl 53 (by decide) (hts _ (List.mem_cons_of_mem _ wlq_1_37)) (fun _ h9 => h9) rfl (dk_at dkX12_goesOn_17 2 rfl) ?_
    refine tp_i (y := iI (A 0 53)) (congrArg iI e_A579_53) ?_
    refine lv_iconst (v := iI 1) hx hb (dk_at dkX12_goesOn_17 3 rfl) (by decide +kernel) ?_
    refine x_subv (v := (A 0 53) - 1) hx hb (dk_at dkX12_goesOn_17 4 rfl) (by omega) ?_
    refine x_put (D := (dC, dI)) (ci := 12) (v := .int (iI ((A 0 53) - 1))) (ty := .int) (C := RX12) (T := TX12) (N := 85) hx hb hts hiX12 tyX12 tyX12_ok nmX12 hown hK hP hDD hS 0 wm0 rfl 53 (by decide) (hts _ (List.mem_cons_of_mem _ wlq_1_37)) (fun _ h9 => h9) rfl (by decide +kernel) rfl rfl (Nat.le_of_ble_eq_true rfl) (dk_at dkX12_goesOn_17 5 rfl) (wf53 (v := (A 0 53) - 1)) (fun H locs hP hS => ?_)
    have hI := hI.st (j := 0) (i := 53) (v := (A 0 53) - 1) (show (0 : Int) ≤ (A 0 53) - 1 ∧ (A 0 53) - 1 ≤ 20 from (by omega))
    refine lv_aload_n hx hb (dk_at dkX12_goesOn_17 6 rfl) rfl (lv_at hl 0 rfl) ?_
    refine lv_dup hx hb (dk_at dkX12_goesOn_17 7 rfl) rfl ?_
    refine va_get (D := (dC, dI)) (ci := 12) (v := .int (iI (A579 0 54))) (C := RX12) (T := TX12) (N := 85) hx hb hts hiX12 hown hK hP 0 wm0 rfl 54 (by decide) (hts _ (List.mem_cons_of_mem _ wlq_1_50)) (fun _ h9 => h9) rfl (dk_at dkX12_goesOn_17 8 rfl) ?_
    refine tp_i (y := iI (A 0 54)) (congrArg iI e_A579_54) ?_
    refine lv_iconst (v := iI 1) hx hb (dk_at dkX12_goesOn_17 9 rfl) (by decide +kernel) ?_
    refine x_subv (v := (A 0 54) - 1) hx hb (dk_at dkX12_goesOn_17 10 rfl) (by omega) ?_
    refine x_put (D := (dC, dI)) (ci := 12) (v := .int (iI ((A 0 54) - 1))) (ty := .int) (C := RX12) (T := TX12) (N := 85) hx hb hts hiX12 tyX12 tyX12_ok nmX12 hown hK hP hDD hS 0 wm0 rfl 54 (by decide) (hts _ (List.mem_cons_of_mem _ wlq_1_50)) (fun _ h9 => h9) rfl (by decide +kernel) rfl rfl (Nat.le_of_ble_eq_true rfl) (dk_at dkX12_goesOn_17 11 rfl) (wf54 (v := (A 0 54) - 1)) (fun H locs hP hS => ?_)
    have hI := hI.st (j := 0) (i := 54) (v := (A 0 54) - 1) (show (0 : Int) ≤ (A 0 54) - 1 ∧ (A 0 54) - 1 ≤ 8 from (by omega))
    refine lv_iload_n hx hb (dk_at dkX12_goesOn_17 12 rfl) rfl (lv_at hl 2 rfl) ?_
    refine lv_iconst (v := iI 4) hx hb (dk_at dkX12_goesOn_17 13 rfl) (by decide +kernel) ?_
    obtain ⟨A584, hA584⟩ : ∃ A584 : St, A584 = (stA (stA A579 0 53 ((A 0 53) - 1)) 0 54 ((A 0 54) - 1)) := ⟨_, rfl⟩
    rw [← hA584] at hP hI
    refine lv_icmp_ne (tgt := 561) hx hb (dk_at dkX12_goesOn_17 14 rfl) (by decide) (fun c585 => ?_) (fun c585 => ?_)
    · have c585 : ¬ z1 = 4 := mt (i_eq (rb rz1 (by decide) (by decide)) ⟨by decide, by decide⟩).mpr c585
      refine lv_iload_n hx hb (dk_at dkX12_goesOn_18 6 rfl) rfl (lv_at hl 2 rfl) ?_
      refine lv_iconst (v := iI 5) hx hb (dk_at dkX12_goesOn_18 7 rfl) (by decide +kernel) ?_
      refine lv_icmp_ne (tgt := 578) hx hb (dk_at dkX12_goesOn_18 8 rfl) (by decide) (fun c586 => ?_) (fun c586 => ?_)
      · have c586 : ¬ z1 = 5 := mt (i_eq (rb rz1 (by decide) (by decide)) ⟨by decide, by decide⟩).mpr c586
        refine lv_aload_n hx hb (dk_at dkX12_goesOn_19 1 rfl) rfl (lv_at hl 0 rfl) ?_
        have e_A584_4 : A584 0 4 = (A 0 4) := by rw [hA584]; exact e_A579_4
        have e_A584_5 : A584 0 5 = (A 0 5) := by rw [hA584]; exact e_A579_5
        have e_A584_8 : A584 0 8 = (A576 0 8) := by rw [hA584]; exact e_A579_8
        refine x_callv (As := []) (rest := []) ⟨hx, hb, hml, hown, hts⟩ (mb_X12_ahead l dC dI cB cI cJ cZ cQ q _ hI) (cwV 0 hts (goodV wlq_0_40 wlq_0_41 wlq_0_42 wlq_0_8 wlq_0_20) rfl rfl rfl (by decide +kernel) ⟨Nat.le_of_ble_eq_true rfl, Nat.le_of_ble_eq_true rfl⟩) hK hDD hA0 hP hS 0 12 wm0 rfl rfl hl.1 (Nat.le_of_ble_eq_true rfl) (dk_at dkX12_goesOn_19 2 rfl) (fun A587 H locs hw588 hP hS => ?_)
        have ghw588 : q_X12_ahead A584 A587 := hw588
        obtain ⟨_, hI, hf589, hw588⟩ := hw588
        have r_A587_0_3 : (0 : Int) ≤ (A587 0 3) ∧ (A587 0 3) ≤ 3 := hI 0 3
        have r_A587_0_4 : (0 : Int) ≤ (A587 0 4) ∧ (A587 0 4) ≤ 1600 := hI 0 4
        have r_A587_0_5 : (0 : Int) ≤ (A587 0 5) ∧ (A587 0 5) ≤ 1600 := hI 0 5
        have r_A587_0_8 : (0 : Int) ≤ (A587 0 8) ∧ (A587 0 8) ≤ 5 := hI 0 8
        have hw588x := hw588.1
        have hw588y := hw588.2.1
        replace hw588 := Hd.mk hw588
        refine lv_iconst (v := iI 1) hx hb (dk_at dkX12_goesOn_19 3 rfl) (by decide +kernel) ?_
        have e_A584_46 : A584 0 46 = (A579 0 46) := by rw [hA584]; exact rfl
        have e_A587_46 : A587 0 46 = (A579 0 46) := (hf589.2 46 rfl).trans e_A584_46
        have e_A584_47 : A584 0 47 = (A 0 47) := by rw [hA584]; exact e_A579_47
        have e_A587_47 : A587 0 47 = (A 0 47) := (hf589.2 47 rfl).trans e_A584_47
        have e_A576_57 : A576 0 57 = (A 0 57) := (hj575.2 57 rfl)
        have e_A579_57 : A579 0 57 = (A 0 57) := (hf581.2 57 rfl).trans e_A576_57
        have e_A584_57 : A584 0 57 = (A 0 57) := by rw [hA584]; exact e_A579_57
        have e_A587_57 : A587 0 57 = (A 0 57) := (hf589.2 57 rfl).trans e_A584_57
        have r_A_0_57 : (0 : Int) ≤ (A 0 57) ∧ (A 0 57) ≤ 1 := by rw [← e_A587_57]; exact hI 0 57
        have ca590 : A576 35 = A 35 := (hj575.1 35 (by decide) rfl)
        have ca591 : A579 35 = A 35 := (hf581.1 35 (by decide) rfl).trans ca590
        have gs := f577.out (by omega)
        have hlt := RI.lt hp0 (by omega)
        have ca592 : A584 29 = A579 29 := by rw [hA584]; exact rfl
        have ca593 : A587 29 = A579 29 := (hf589.1 29 (by decide) rfl).trans ca592
        have ca594 : A584 31 = A579 31 := by rw [hA584]; exact rfl
        have ca595 : A587 31 = A579 31 := (hf589.1 31 (by decide) rfl).trans ca594
        have ca596 : A584 33 = A579 33 := by rw [hA584]; exact rfl
        have ca597 : A587 33 = A579 33 := (hf589.1 33 (by decide) rfl).trans ca596
        have ca598 : A584 35 = A579 35 := by rw [hA584]; exact rfl
        have ca599 : A587 35 = A579 35 := (hf589.1 35 (by decide) rfl).trans ca598
        have ca600 : A584 37 = A579 37 := by rw [hA584]; exact rfl
        have ca601 : A587 37 = A579 37 := (hf589.1 37 (by decide) rfl).trans ca600
        have ca602 : A584 39 = A579 39 := by rw [hA584]; exact rfl
        have ca603 : A587 39 = A579 39 := (hf589.1 39 (by decide) rfl).trans ca602
        have ca604 : A584 40 = A579 40 := by rw [hA584]; exact rfl
        have ca605 : A587 40 = A579 40 := (hf589.1 40 (by decide) rfl).trans ca604
        have e_A584_53 : A584 0 53 = (A 0 53) - 1 := by rw [hA584]; rfl
        have e_A587_53 : A587 0 53 = (A 0 53) - 1 := (hf589.2 53 rfl).trans e_A584_53
        have e_A584_54 : A584 0 54 = (A 0 54) - 1 := by rw [hA584]; rfl
        have e_A587_54 : A587 0 54 = (A 0 54) - 1 := (hf589.2 54 rfl).trans e_A584_54
        have e_A584_56 : A584 0 56 = (A579 0 56) := by rw [hA584]; exact rfl
        have e_A587_56 : A587 0 56 = (A579 0 56) := (hf589.2 56 rfl).trans e_A584_56
        have ca606 : A584 36 = A579 36 := by rw [hA584]; exact rfl
        have ca607 : A587 36 = A579 36 := (hf589.1 36 (by decide) rfl).trans ca606
        have f53j := e_A579_53
        have ca608 : A584 39 = A579 39 := by rw [hA584]; exact rfl
        have ca609 : A587 39 = A579 39 := (hf589.1 39 (by decide) rfl).trans ca608
        have ca610 : A584 40 = A579 40 := by rw [hA584]; exact rfl
        have ca611 : A587 40 = A579 40 := (hf589.1 40 (by decide) rfl).trans ca610
        have ca612 : A584 35 = A579 35 := by rw [hA584]; exact rfl
        have ca613 : A587 35 = A579 35 := (hf589.1 35 (by decide) rfl).trans ca612
        have ca614 : A584 38 = A579 38 := by rw [hA584]; exact rfl
        have ca615 : A587 38 = A579 38 := (hf589.1 38 (by decide) rfl).trans ca614
        exact RET 1 _ _ _ _ _ ⟨hk10 _ _ (u_d_X12_goesOn_10 ⟨hIv, (Or.inl ⟨c578, ⟨A579, ghw580, ⟨A584, hA584, (Or.inl ⟨c585, (Or.inl ⟨c586, ⟨A587, ghw588, ⟨rfl, rfl⟩⟩⟩)⟩)⟩⟩⟩)⟩), hI, fr.trans (fr_def hA584 (fr.sf (fr.sf (fr.trans (fr.trans (fr.rf) hj575 rfl rfl) hf581 rfl rfl) rfl) rfl)) hf589 rfl rfl, (CI.fr (CI.fr hc582 (fr_def hA584 (fr.sf (fr.sf (fr.rf (M := []) (N := [53, 54])) rfl) rfl)) rfl rfl) hf589 rfl rfl), ⟨by decide, Hd.mk (fun h0 => ⟨fun _ => ⟨by rw [show A587 0 57 = 1 by omega]; exact RI.shut hj1 hIj (by omega) (by rw [ca591, e_A579_53, ← hz1]; omega) (RI.full hj2.out) (Or.inl ⟨by rw [ca591, e_A579_53, ← hz1]; omega, rfl, rfl⟩) ⟨ca593, ca595, ca597, ca599, ca601, ca603, ca605, e_A587_46, (e_A587_47.trans e_A579_47.symm), (by omega), (by omega), e_A587_56⟩ (by omega) (by omega) hw588.out.2.2.1, ⟨PR.pop (PR.fr (PR.fr hp2 hj575 rfl rfl) hf581 rfl rfl) ca613 (by omega) ca615, SP.close (r36 := A579 36) hc583 (by omega) (RI.full hj2.out) ca607 (fun _ _ => rfl) (Or.inl rfl) ca609 ca611 (by omega) e_A587_56⟩, by omega⟩, fun h => absurd h (by decide)⟩)⟩⟩ hP hS (dk_at dkX12_goesOn_19 4 rfl)
      · have c586 : z1 = 5 := (i_eq (rb rz1 (by decide) (by decide)) ⟨by decide, by decide⟩).mp c586
        refine lv_aload_n hx hb (dk_at dkX12_goesOn_18 9 rfl) rfl (lv_at hl 0 rfl) ?_
        refine va_get (D := (dC, dI)) (ci := 12) (v := .ref (q 36)) (C := RX12) (T := TX12) (N := 85) hx hb hts hiX12 hown hK hP 0 wm0 rfl 49 (by decide) (hts _ (List.mem_cons_of_mem _ wlq_1_47)) (fun _ h9 => h9) rfl (dk_at dkX12_goesOn_18 10 rfl) ?_
        refine lv_aload_n hx hb (dk_at dkX12_goesOn_18 11 rfl) rfl (lv_at hl 0 rfl) ?_
        have e_A584_53 : A584 0 53 = (A 0 53) - 1 := by rw [hA584]; rfl
        refine va_get (D := (dC, dI)) (ci := 12) (v := .int (iI (A584 0 53))) (C := RX12) (T := TX12) (N := 85) hx hb hts hiX12 hown hK hP 0 wm0 rfl 53 (by decide) (hts _ (List.mem_cons_of_mem _ wlq_1_37)) (fun _ h9 => h9) rfl (dk_at dkX12_goesOn_18 12 rfl) ?_
        refine tp_i (y := iI ((A 0 53) - 1)) (congrArg iI e_A584_53) ?_
        refine lv_iconst (v := iI 1) hx hb (dk_at dkX12_goesOn_18 13 rfl) (by decide +kernel) ?_
        refine x_subv (v := (A 0 53) - 2) hx hb (dk_at dkX12_goesOn_18 14 rfl) (by omega) ?_
        refine lv_iconst (v := iI 2) hx hb (dk_at dkX12_goesOn_18 15 rfl) (by decide +kernel) ?_
        refine x_iast hx hb hK hP hDD hS 36 1 wm36 rfl (by omega) (by decide) (dk_at dkX12_goesOn_19 0 rfl) ws36 (fun H locs hP hS => ?_)
        have hI := hI.st (j := 36) (i := ((A 0 53) - 2).toNat) (v := 2) (show (0 : Int) ≤ 2 ∧ 2 ≤ 2 from (by omega))
        refine lv_aload_n hx hb (dk_at dkX12_goesOn_19 1 rfl) rfl (lv_at hl 0 rfl) ?_
        obtain ⟨A616, hA616⟩ : ∃ A616 : St, A616 = (stA A584 36 ((A 0 53) - 2).toNat 2) := ⟨_, rfl⟩
        rw [← hA616] at hP hI
        have e_A584_4 : A584 0 4 = (A 0 4) := by rw [hA584]; exact e_A579_4
        have e_A616_4 : A616 0 4 = (A 0 4) := by rw [hA616]; exact e_A584_4
        have e_A584_5 : A584 0 5 = (A 0 5) := by rw [hA584]; exact e_A579_5
        have e_A616_5 : A616 0 5 = (A 0 5) := by rw [hA616]; exact e_A584_5
        have e_A584_8 : A584 0 8 = (A576 0 8) := by rw [hA584]; exact e_A579_8
        have e_A616_8 : A616 0 8 = (A576 0 8) := by rw [hA616]; exact e_A584_8
        refine x_callv (As := []) (rest := []) ⟨hx, hb, hml, hown, hts⟩ (mb_X12_ahead l dC dI cB cI cJ cZ cQ q _ hI) (cwV 0 hts (goodV wlq_0_40 wlq_0_41 wlq_0_42 wlq_0_8 wlq_0_20) rfl rfl rfl (by decide +kernel) ⟨Nat.le_of_ble_eq_true rfl, Nat.le_of_ble_eq_true rfl⟩) hK hDD hA0 hP hS 0 12 wm0 rfl rfl hl.1 (Nat.le_of_ble_eq_true rfl) (dk_at dkX12_goesOn_19 2 rfl) (fun A617 H locs hw618 hP hS => ?_)
        have ghw618 : q_X12_ahead A616 A617 := hw618
        obtain ⟨_, hI, hf619, hw618⟩ := hw618
        have r_A617_0_3 : (0 : Int) ≤ (A617 0 3) ∧ (A617 0 3) ≤ 3 := hI 0 3
        have r_A617_0_4 : (0 : Int) ≤ (A617 0 4) ∧ (A617 0 4) ≤ 1600 := hI 0 4
        have r_A617_0_5 : (0 : Int) ≤ (A617 0 5) ∧ (A617 0 5) ≤ 1600 := hI 0 5
        have r_A617_0_8 : (0 : Int) ≤ (A617 0 8) ∧ (A617 0 8) ≤ 5 := hI 0 8
        have hw618x := hw618.1
        have hw618y := hw618.2.1
        replace hw618 := Hd.mk hw618
        refine lv_iconst (v := iI 1) hx hb (dk_at dkX12_goesOn_19 3 rfl) (by decide +kernel) ?_
        have e_A584_46 : A584 0 46 = (A579 0 46) := by rw [hA584]; exact rfl
        have e_A616_46 : A616 0 46 = (A579 0 46) := by rw [hA616]; exact e_A584_46
        have e_A617_46 : A617 0 46 = (A579 0 46) := (hf619.2 46 rfl).trans e_A616_46
        have e_A584_47 : A584 0 47 = (A 0 47) := by rw [hA584]; exact e_A579_47
        have e_A616_47 : A616 0 47 = (A 0 47) := by rw [hA616]; exact e_A584_47
        have e_A617_47 : A617 0 47 = (A 0 47) := (hf619.2 47 rfl).trans e_A616_47
        have e_A576_57 : A576 0 57 = (A 0 57) := (hj575.2 57 rfl)
        have e_A579_57 : A579 0 57 = (A 0 57) := (hf581.2 57 rfl).trans e_A576_57
        have e_A584_57 : A584 0 57 = (A 0 57) := by rw [hA584]; exact e_A579_57
        have e_A616_57 : A616 0 57 = (A 0 57) := by rw [hA616]; exact e_A584_57
        have e_A617_57 : A617 0 57 = (A 0 57) := (hf619.2 57 rfl).trans e_A616_57
        have r_A_0_57 : (0 : Int) ≤ (A 0 57) ∧ (A 0 57) ≤ 1 := by rw [← e_A617_57]; exact hI 0 57
        have ca620 : A576 35 = A 35 := (hj575.1 35 (by decide) rfl)
        have ca621 : A579 35 = A 35 := (hf581.1 35 (by decide) rfl).trans ca620
        have gs := f577.out (by omega)
        have hlt := RI.lt hp0 (by omega)
        have ca622 : A584 29 = A579 29 := by rw [hA584]; exact rfl
        have ca623 : A616 29 = A579 29 := by rw [hA616]; exact ca622
        have ca624 : A617 29 = A579 29 := (hf619.1 29 (by decide) rfl).trans ca623
        have ca625 : A584 31 = A579 31 := by rw [hA584]; exact rfl
        have ca626 : A616 31 = A579 31 := by rw [hA616]; exact ca625
        have ca627 : A617 31 = A579 31 := (hf619.1 31 (by decide) rfl).trans ca626
        have ca628 : A584 33 = A579 33 := by rw [hA584]; exact rfl
        have ca629 : A616 33 = A579 33 := by rw [hA616]; exact ca628
        have ca630 : A617 33 = A579 33 := (hf619.1 33 (by decide) rfl).trans ca629
        have ca631 : A584 35 = A579 35 := by rw [hA584]; exact rfl
        have ca632 : A616 35 = A579 35 := by rw [hA616]; exact ca631
        have ca633 : A617 35 = A579 35 := (hf619.1 35 (by decide) rfl).trans ca632
        have ca634 : A584 37 = A579 37 := by rw [hA584]; exact rfl
        have ca635 : A616 37 = A579 37 := by rw [hA616]; exact ca634
        have ca636 : A617 37 = A579 37 := (hf619.1 37 (by decide) rfl).trans ca635
        have ca637 : A584 39 = A579 39 := by rw [hA584]; exact rfl
        have ca638 : A616 39 = A579 39 := by rw [hA616]; exact ca637
        have ca639 : A617 39 = A579 39 := (hf619.1 39 (by decide) rfl).trans ca638
        have ca640 : A584 40 = A579 40 := by rw [hA584]; exact rfl
        have ca641 : A616 40 = A579 40 := by rw [hA616]; exact ca640
        have ca642 : A617 40 = A579 40 := (hf619.1 40 (by decide) rfl).trans ca641
        have e_A616_53 : A616 0 53 = (A 0 53) - 1 := by rw [hA616]; exact e_A584_53
        have e_A617_53 : A617 0 53 = (A 0 53) - 1 := (hf619.2 53 rfl).trans e_A616_53
        have e_A584_54 : A584 0 54 = (A 0 54) - 1 := by rw [hA584]; rfl
        have e_A616_54 : A616 0 54 = (A 0 54) - 1 := by rw [hA616]; exact e_A584_54
        have e_A617_54 : A617 0 54 = (A 0 54) - 1 := (hf619.2 54 rfl).trans e_A616_54
        have e_A584_56 : A584 0 56 = (A579 0 56) := by rw [hA584]; exact rfl
        have e_A616_56 : A616 0 56 = (A579 0 56) := by rw [hA616]; exact e_A584_56
        have e_A617_56 : A617 0 56 = (A579 0 56) := (hf619.2 56 rfl).trans e_A616_56
        have ca643 : A584 36 = A579 36 := by rw [hA584]; exact rfl
        have e36 : A616 36 = up (A579 36) (A579 0 53 - 1 - 1).toNat 2 := by rw [hA616]; show up (A584 36) _ _ = _; rw [ca643, e_A579_53, show A 0 53 - 1 - 1 = A 0 53 - 2 by omega]
        have ca644 : A617 36 = A616 36 := (hf619.1 36 (by decide) rfl)
        have f53j := e_A579_53
        have ca645 : A584 39 = A579 39 := by rw [hA584]; exact rfl
        have ca646 : A616 39 = A579 39 := by rw [hA616]; exact ca645
        have ca647 : A617 39 = A579 39 := (hf619.1 39 (by decide) rfl).trans ca646
        have ca648 : A584 40 = A579 40 := by rw [hA584]; exact rfl
        have ca649 : A616 40 = A579 40 := by rw [hA616]; exact ca648
        have ca650 : A617 40 = A579 40 := (hf619.1 40 (by decide) rfl).trans ca649
        have ca651 : A584 35 = A579 35 := by rw [hA584]; exact rfl
        have ca652 : A616 35 = A579 35 := by rw [hA616]; exact ca651
        have ca653 : A617 35 = A579 35 := (hf619.1 35 (by decide) rfl).trans ca652
        have ca654 : A584 38 = A579 38 := by rw [hA584]; exact rfl
        have ca655 : A616 38 = A579 38 := by rw [hA616]; exact ca654
        have ca656 : A617 38 = A579 38 := (hf619.1 38 (by decide) rfl).trans ca655
        exact RET 1 _ _ _ _ _ ⟨hk10 _ _ (u_d_X12_goesOn_10 ⟨hIv, (Or.inl ⟨c578, ⟨A579, ghw580, ⟨A584, hA584, (Or.inl ⟨c585, (Or.inr ⟨c586, ⟨A616, hA616, ⟨A617, ghw618, ⟨rfl, rfl⟩⟩⟩⟩)⟩)⟩⟩⟩)⟩), hI, fr.trans (fr_def hA616 (fr.st (fr_def hA584 (fr.sf (fr.sf (fr.trans (fr.trans (fr.rf) hj575 rfl rfl) hf581 rfl rfl) rfl) rfl)) (by decide) rfl)) hf619 rfl rfl, (CI.fr (CI.fr (CI.fr hc582 (fr_def hA584 (fr.sf (fr.sf (fr.rf (M := []) (N := [53, 54])) rfl) rfl)) rfl rfl) (fr_def hA616 (fr.st (fr.rf (M := [36]) (N := [])) (by decide) rfl)) rfl rfl) hf619 rfl rfl), ⟨by decide, Hd.mk (fun h0 => ⟨fun _ => ⟨by rw [show A617 0 57 = 1 by omega]; exact RI.shut hj1 hIj (by omega) (by rw [ca621, e_A579_53, ← hz1]; omega) (RI.full hj2.out) (Or.inl ⟨by rw [ca621, e_A579_53, ← hz1]; omega, rfl, rfl⟩) ⟨ca624, ca627, ca630, ca633, ca636, ca639, ca642, e_A617_46, (e_A617_47.trans e_A579_47.symm), (by omega), (by omega), e_A617_56⟩ (by omega) (by omega) hw618.out.2.2.1, ⟨PR.pop (PR.fr (PR.fr hp2 hj575 rfl rfl) hf581 rfl rfl) ca653 (by omega) ca656, SP.close (r36 := up (A579 36) (A579 0 53 - 1 - 1).toNat 2) hc583 (by omega) (RI.full hj2.out) (ca644.trans e36) (fun i hi => by rw [up_ne _ _ (by omega)]) (Or.inr (up_same _ _ _)) ca647 ca650 (by omega) e_A617_56⟩, by omega⟩, fun h => absurd h (by decide)⟩)⟩⟩ hP hS (dk_at dkX12_goesOn_19 4 rfl)
    · have c585 : z1 = 4 := (i_eq (rb rz1 (by decide) (by decide)) ⟨by decide, by decide⟩).mp c585
      have gs := f577.out (by omega)
      have hlt := RI.lt hp0 (by omega)
      refine lv_aload_n hx hb (dk_at dkX12_goesOn_17 15 rfl) rfl (lv_at hl 0 rfl) ?_
      refine lv_aload_n hx hb (dk_at dkX12_goesOn_18 0 rfl) rfl (lv_at hl 0 rfl) ?_
      refine va_get (D := (dC, dI)) (ci := 12) (v := .ref (q 38)) (C := RX12) (T := TX12) (N := 85) hx hb hts hiX12 hown hK hP 0 wm0 rfl 51 (by decide) (hts _ (List.mem_cons_of_mem _ wlq_1_56)) (fun _ h9 => h9) rfl (dk_at dkX12_goesOn_18 1 rfl) ?_
      refine lv_iload_n hx hb (dk_at dkX12_goesOn_18 2 rfl) rfl (lv_at hl 1 rfl) ?_
      have a_A576_38 : A576 38 = A 38 := (hj575.1 38 (by decide) rfl)
      have a_A579_38 : A579 38 = A 38 := (hf581.1 38 (by decide) rfl).trans a_A576_38
      have a_A584_38 : A584 38 = A 38 := by rw [hA584]; exact a_A579_38
      refine x_iald hx hb hK hP 38 1 wm38 rfl (by omega) (by decide) (dk_at dkX12_goesOn_18 3 rfl) (fun z657 hz657 => ?_)
      have rz657 : (0 : Int) ≤ z657 ∧ z657 ≤ 16 := by rw [hz657]; exact hI 38 _
      have gz657 := Hd.mk hz657
      have hz657 : z657 = A 38 ((A 0 53) - 1).toNat := hz657.trans (congrFun a_A584_38 _)
      refine lv_iconst (v := iI 0) hx hb (dk_at dkX12_goesOn_18 4 rfl) (by decide +kernel) ?_
      have e_A584_46 : A584 0 46 = (A579 0 46) := by rw [hA584]; exact rfl
      have e_A584_47 : A584 0 47 = (A 0 47) := by rw [hA584]; exact e_A579_47
      refine x_callv (As := [.int (iI z657), .int (iI 0)]) (rest := []) ⟨hx, hb, hml, hown, hts⟩ (mb_X12_add l dC dI cB cI cJ cZ cQ q _ z657 0 hI (rb rz657 (by decide) (by decide)) ⟨by decide, by decide⟩ (by omega) (CI.fr hc582 (fr_def hA584 (fr.sf (fr.sf (fr.rf (M := []) (N := [53, 54])) rfl) rfl)) rfl rfl)) (cwV 2 hts (goodV wlq_1_41 wlq_1_42 wlq_1_43 wlq_0_8 wlq_1_29) rfl rfl rfl (by decide +kernel) ⟨Nat.le_of_ble_eq_true rfl, Nat.le_of_ble_eq_true rfl⟩) hK hDD hA0 hP hS 0 12 wm0 rfl rfl hl.1 (Nat.le_of_ble_eq_true rfl) (dk_at dkX12_goesOn_18 5 rfl) (fun A658 H locs hw659 hP hS => ?_)
      have ghw659 : q_X12_add z657 0 A584 A658 := hw659
      obtain ⟨_, hI, hf660, hw659⟩ := hw659
      obtain ⟨hc661, hw659⟩ := hw659
      have r_A658_0_46 : (0 : Int) ≤ (A658 0 46) ∧ (A658 0 46) ≤ 1600 := hI 0 46
      refine lv_iload_n hx hb (dk_at dkX12_goesOn_18 6 rfl) rfl (lv_at hl 2 rfl) ?_
      refine lv_iconst (v := iI 5) hx hb (dk_at dkX12_goesOn_18 7 rfl) (by decide +kernel) ?_
      refine lv_icmp_ne (tgt := 578) hx hb (dk_at dkX12_goesOn_18 8 rfl) (by decide) (fun _ => ?_) (fun c662 => False.elim (by have c662 : z1 = 5 := (i_eq (rb rz1 (by decide) (by decide)) ⟨by decide, by decide⟩).mp c662; omega))
      refine lv_aload_n hx hb (dk_at dkX12_goesOn_19 1 rfl) rfl (lv_at hl 0 rfl) ?_
      have e_A584_4 : A584 0 4 = (A 0 4) := by rw [hA584]; exact e_A579_4
      have e_A658_4 : A658 0 4 = (A 0 4) := (hf660.2 4 rfl).trans e_A584_4
      have e_A584_5 : A584 0 5 = (A 0 5) := by rw [hA584]; exact e_A579_5
      have e_A658_5 : A658 0 5 = (A 0 5) := (hf660.2 5 rfl).trans e_A584_5
      have e_A584_8 : A584 0 8 = (A576 0 8) := by rw [hA584]; exact e_A579_8
      have e_A658_8 : A658 0 8 = (A576 0 8) := (hf660.2 8 rfl).trans e_A584_8
      refine x_callv (As := []) (rest := []) ⟨hx, hb, hml, hown, hts⟩ (mb_X12_ahead l dC dI cB cI cJ cZ cQ q _ hI) (cwV 0 hts (goodV wlq_0_40 wlq_0_41 wlq_0_42 wlq_0_8 wlq_0_20) rfl rfl rfl (by decide +kernel) ⟨Nat.le_of_ble_eq_true rfl, Nat.le_of_ble_eq_true rfl⟩) hK hDD hA0 hP hS 0 12 wm0 rfl rfl hl.1 (Nat.le_of_ble_eq_true rfl) (dk_at dkX12_goesOn_19 2 rfl) (fun A663 H locs hw664 hP hS => ?_)
      have ghw664 : q_X12_ahead A658 A663 := hw664
      obtain ⟨_, hI, hf665, hw664⟩ := hw664
      have r_A663_0_3 : (0 : Int) ≤ (A663 0 3) ∧ (A663 0 3) ≤ 3 := hI 0 3
      have r_A663_0_4 : (0 : Int) ≤ (A663 0 4) ∧ (A663 0 4) ≤ 1600 := hI 0 4
      have r_A663_0_5 : (0 : Int) ≤ (A663 0 5) ∧ (A663 0 5) ≤ 1600 := hI 0 5
      have r_A663_0_8 : (0 : Int) ≤ (A663 0 8) ∧ (A663 0 8) ≤ 5 := hI 0 8
      have hw664x := hw664.1
      have hw664y := hw664.2.1
      replace hw664 := Hd.mk hw664
      refine lv_iconst (v := iI 1) hx hb (dk_at dkX12_goesOn_19 3 rfl) (by decide +kernel) ?_
      have e_A663_46 : A663 0 46 = (A658 0 46) := (hf665.2 46 rfl)
      have e_A658_47 : A658 0 47 = (A 0 47) := (hf660.2 47 rfl).trans e_A584_47
      have e_A663_47 : A663 0 47 = (A 0 47) := (hf665.2 47 rfl).trans e_A658_47
      have e_A576_57 : A576 0 57 = (A 0 57) := (hj575.2 57 rfl)
      have e_A579_57 : A579 0 57 = (A 0 57) := (hf581.2 57 rfl).trans e_A576_57
      have e_A584_57 : A584 0 57 = (A 0 57) := by rw [hA584]; exact e_A579_57
      have e_A658_57 : A658 0 57 = (A 0 57) := (hf660.2 57 rfl).trans e_A584_57
      have e_A663_57 : A663 0 57 = (A 0 57) := (hf665.2 57 rfl).trans e_A658_57
      have r_A_0_57 : (0 : Int) ≤ (A 0 57) ∧ (A 0 57) ≤ 1 := by rw [← e_A663_57]; exact hI 0 57
      have ca666 : A576 35 = A 35 := (hj575.1 35 (by decide) rfl)
      have ca667 : A579 35 = A 35 := (hf581.1 35 (by decide) rfl).trans ca666
      have ca668 : A663 33 = A658 33 := (hf665.1 33 (by decide) rfl)
      have ca669 : A584 33 = A579 33 := by rw [hA584]; exact rfl
      have gx : 10 ≤ z657 := by rw [hz657]; exact hp2 _ (by omega) (Or.inr (by rw [← hz1]; omega))
      have ca670 : A584 29 = A579 29 := by rw [hA584]; exact rfl
      have ca671 : A658 29 = A579 29 := (hf660.1 29 (by decide) rfl).trans ca670
      have ca672 : A663 29 = A579 29 := (hf665.1 29 (by decide) rfl).trans ca671
      have ca673 : A584 31 = A579 31 := by rw [hA584]; exact rfl
      have ca674 : A658 31 = A579 31 := (hf660.1 31 (by decide) rfl).trans ca673
      have ca675 : A663 31 = A579 31 := (hf665.1 31 (by decide) rfl).trans ca674
      have ca676 : A584 35 = A579 35 := by rw [hA584]; exact rfl
      have ca677 : A658 35 = A579 35 := (hf660.1 35 (by decide) rfl).trans ca676
      have ca678 : A663 35 = A579 35 := (hf665.1 35 (by decide) rfl).trans ca677
      have ca679 : A584 37 = A579 37 := by rw [hA584]; exact rfl
      have ca680 : A658 37 = A579 37 := (hf660.1 37 (by decide) rfl).trans ca679
      have ca681 : A663 37 = A579 37 := (hf665.1 37 (by decide) rfl).trans ca680
      have ca682 : A584 39 = A579 39 := by rw [hA584]; exact rfl
      have ca683 : A658 39 = A579 39 := (hf660.1 39 (by decide) rfl).trans ca682
      have ca684 : A663 39 = A579 39 := (hf665.1 39 (by decide) rfl).trans ca683
      have ca685 : A584 40 = A579 40 := by rw [hA584]; exact rfl
      have ca686 : A658 40 = A579 40 := (hf660.1 40 (by decide) rfl).trans ca685
      have ca687 : A663 40 = A579 40 := (hf665.1 40 (by decide) rfl).trans ca686
      have e_A584_53 : A584 0 53 = (A 0 53) - 1 := by rw [hA584]; rfl
      have e_A658_53 : A658 0 53 = (A 0 53) - 1 := (hf660.2 53 rfl).trans e_A584_53
      have e_A663_53 : A663 0 53 = (A 0 53) - 1 := (hf665.2 53 rfl).trans e_A658_53
      have e_A584_54 : A584 0 54 = (A 0 54) - 1 := by rw [hA584]; rfl
      have e_A658_54 : A658 0 54 = (A 0 54) - 1 := (hf660.2 54 rfl).trans e_A584_54
      have e_A663_54 : A663 0 54 = (A 0 54) - 1 := (hf665.2 54 rfl).trans e_A658_54
      have e_A584_56 : A584 0 56 = (A579 0 56) := by rw [hA584]; exact rfl
      have e_A658_56 : A658 0 56 = (A579 0 56) := (hf660.2 56 rfl).trans e_A584_56
      have e_A663_56 : A663 0 56 = (A579 0 56) := (hf665.2 56 rfl).trans e_A658_56
      have ca688 : A584 36 = A579 36 := by rw [hA584]; exact rfl
      have ca689 : A658 36 = A579 36 := (hf660.1 36 (by decide) rfl).trans ca688
      have ca690 : A663 36 = A579 36 := (hf665.1 36 (by decide) rfl).trans ca689
      have f53j := e_A579_53
      have ca691 : A584 39 = A579 39 := by rw [hA584]; exact rfl
      have ca692 : A658 39 = A579 39 := (hf660.1 39 (by decide) rfl).trans ca691
      have ca693 : A663 39 = A579 39 := (hf665.1 39 (by decide) rfl).trans ca692
      have ca694 : A584 40 = A579 40 := by rw [hA584]; exact rfl
      have ca695 : A658 40 = A579 40 := (hf660.1 40 (by decide) rfl).trans ca694
      have ca696 : A663 40 = A579 40 := (hf665.1 40 (by decide) rfl).trans ca695
      have ca697 : A584 35 = A579 35 := by rw [hA584]; exact rfl
      have ca698 : A658 35 = A579 35 := (hf660.1 35 (by decide) rfl).trans ca697
      have ca699 : A663 35 = A579 35 := (hf665.1 35 (by decide) rfl).trans ca698
      have ca700 : A584 38 = A579 38 := by rw [hA584]; exact rfl
      have ca701 : A658 38 = A579 38 := (hf660.1 38 (by decide) rfl).trans ca700
      have ca702 : A663 38 = A579 38 := (hf665.1 38 (by decide) rfl).trans ca701
      exact RET 1 _ _ _ _ _ ⟨hk10 _ _ (u_d_X12_goesOn_10 ⟨hIv, (Or.inl ⟨c578, ⟨A579, ghw580, ⟨A584, hA584, (Or.inr ⟨c585, ⟨z657, gz657.out, ⟨A658, ghw659, ⟨A663, ghw664, ⟨rfl, rfl⟩⟩⟩⟩⟩)⟩⟩⟩)⟩), hI, fr.trans (fr.trans (fr_def hA584 (fr.sf (fr.sf (fr.trans (fr.trans (fr.rf) hj575 rfl rfl) hf581 rfl rfl) rfl) rfl)) hf660 rfl rfl) hf665 rfl rfl, (CI.fr hc661 hf665 rfl rfl), ⟨by decide, Hd.mk (fun h0 => ⟨fun _ => ⟨by rw [show A663 0 57 = 1 by omega]; exact RI.shut hj1 hIj (by omega) (by rw [ca667, e_A579_53, ← hz1]; omega) (RI.full hj2.out) (Or.inr ⟨z657, (by rw [ca667, e_A579_53, ← hz1]; omega), gx, by omega, rfl, rfl⟩) ⟨ca672, ca675, (ca668.trans (hw659.2.trans (by rw [ca669, show A584 0 47 = A579 0 47 from (e_A584_47.trans e_A579_47.symm), show A584 0 46 = A579 0 46 from e_A584_46]))), ca678, ca681, ca684, ca687, (by omega), (e_A663_47.trans e_A579_47.symm), (by omega), (by omega), e_A663_56⟩ (by omega) (by omega) hw664.out.2.2.1, ⟨PR.pop (PR.fr (PR.fr hp2 hj575 rfl rfl) hf581 rfl rfl) ca699 (by omega) ca702, SP.close (r36 := A579 36) hc583 (by omega) (RI.full hj2.out) ca690 (fun _ _ => rfl) (Or.inl rfl) ca693 ca696 (by omega) e_A663_56⟩, by omega⟩, fun h => absurd h (by decide)⟩)⟩⟩ hP hS (dk_at dkX12_goesOn_19 4 rfl)
  · have c578 : ¬ (A576 0 8) ≤ 0 := mt (i_le0 (rb r_A576_0_8 (by decide) (by decide))).mpr c578
    refine lv_iconst (v := iI 0) hx hb (dk_at dkX12_goesOn_16 11 rfl) (by decide +kernel) ?_
    have e_A576_4 : A576 0 4 = (A 0 4) := (hj575.2 4 rfl)
    have e_A576_5 : A576 0 5 = (A 0 5) := (hj575.2 5 rfl)
    have e_A576_46 : A576 0 46 = (A 0 46) := (hj575.2 46 rfl)
    have e_A576_47 : A576 0 47 = (A 0 47) := (hj575.2 47 rfl)
    have e_A576_57 : A576 0 57 = (A 0 57) := (hj575.2 57 rfl)
    have r_A_0_57 : (0 : Int) ≤ (A 0 57) ∧ (A 0 57) ≤ 1 := by rw [← e_A576_57]; exact hI 0 57
    exact RET 0 _ _ _ _ _ ⟨hk10 _ _ (u_d_X12_goesOn_10 ⟨hIv, (Or.inr ⟨c578, ⟨rfl, rfl⟩⟩)⟩), hI, fr.trans (fr.rf) hj575 rfl rfl, (CI.fr hcCI hj575 rfl rfl), ⟨by decide, Hd.mk (fun h => absurd h (by omega))⟩⟩ hP hS (dk_at dkX12_goesOn_16 12 rfl)
set_option maxHeartbeats 4000000 in
set_option maxRecDepth 100000 in
theorem mb_X12_goesOn_c409 (l : Launch) (dC : Nat → ClassId) (dI : Nat → Nat → Nat) (cB cI cJ cZ cQ : ClassId) (q : Nat → Nat) (A : St) (hI : IM A) (hp0 : RI 1 A) (hp1 : A 0 8 = 0) (hp2 : PR A) (hp3 : A 0 57 = 1) (hp4 : SP A) (hcCI : CI A) (p : Program) (e : Env) (s : State) (m : MethodId) (below : List Frame) (meth : Method) (c : Code) (Q : State → Prop) (AS : Nat → Prop) (hx : p.tables.exec = Jvm.exec) (hb : c.code = cX12_goesOn) (hml : c.maxLocals = 5) (hown : s.vm.findClass RX12 = some m.cls) (hts : ∀ w ∈ ws_mb_X12_goesOn, w.before [.ref (q 0)].toArray s = true) (hK : va_K (dC, dI) vwCl (tyA cB cI cJ cZ cQ) s) (hDD : ∀ A', va_D AS (WM cI cJ cZ q A')) (hA0 : ∀ b : Nat, s.heap.size ≤ b → AS b) (RET : ∀ (z : Int) (u : St) (H : Heap) (locs : List Loc) (pc : Nat) (ls : Array Slot), ((fun z u => r_X12_goesOn A z u ∧ IM u ∧ fr [33, 34, 35, 36, 37, 40] [3, 4, 5, 6, 7, 8, 9, 46, 53, 54, 56, 57] A u ∧ CI u ∧ ((0 ≤ z ∧ z ≤ 1) ∧ (Hd (u 0 8 = 0 → (z = 1 → RI (u 0 57) u ∧ (PR u ∧ SP u) ∧ A 0 4 + 1 ≤ u 0 4) ∧ (z = 0 → DP (u 33) (sA u) (1600 * u 0 47 + u 0 46) 1 ∧ CB u ∧ A 0 4 ≤ u 0 4))))) z u) → va_P (dC, dI) vwCl (WM cI cJ cZ q u) H → va_S AS s.heap H locs → decode cX12_goesOn pc = .ok (.ireturn, 1) → W p l e (headSpec ws_mb_X12_goesOn ({ frames := 2, cells := 0, slots := 0, locals := 47 } : Room)).room s m [.ref (q 0)].toArray below meth c H locs 0 0 Q (F0 m pc ls [.int (iI z)])) (H : Heap) (locs : List Loc) (ls : Array Slot) (z1 : Int) (rz1 : (0 : Int) ≤ z1 ∧ z1 ≤ 5) (hz1 : z1 = A 35 ((A 0 53) - 1).toNat) (A558 : St) (hIv : IM A558) (hj557 : fr [] [8, 9] A A558) (hk8 : ∀ (z : Int) (u : St), (d_X12_goesOn_8 A z u z1 A558) → r_X12_goesOn A z u) (hP : va_P (dC, dI) vwCl (WM cI cJ cZ q A558) H) (hS : va_S AS s.heap H locs) (hl : lv_has ls 5 [(0, .ref (q 0)), (1, .int (iI ((A 0 53) - 1))), (2, .int (iI z1))]) : W p l e (headSpec ws_mb_X12_goesOn ({ frames := 2, cells := 0, slots := 0, locals := 47 } : Room)).room s m [.ref (q 0)].toArray below meth c H locs 0 0 Q (F0 m 409 ls []) := by
  have hiX12 : ∀ w ∈ u_ws RX12 TX12 85, w ∈ ws_mb_X12_goesOn := fun w h => List.mem_cons_of_mem _ (wx_lay w h)
  have hI0 := hI
  have hdp := RI.deep hp0 hI0
  have hrm := RI.room hp0 hI0
  have r_A_0_3 : (0 : Int) ≤ (A 0 3) ∧ (A 0 3) ≤ 3 := hI 0 3
  have r_A_0_4 : (0 : Int) ≤ (A 0 4) ∧ (A 0 4) ≤ 1600 := hI 0 4
  have r_A_0_5 : (0 : Int) ≤ (A 0 5) ∧ (A 0 5) ≤ 1600 := hI 0 5
  have r_A_0_7 : (-9223372036854775808 : Int) ≤ (A 0 7) ∧ (A 0 7) ≤ 9223372036854775807 := hI 0 7
  have r_A_0_8 : (0 : Int) ≤ (A 0 8) ∧ (A 0 8) ≤ 5 := hI 0 8
  have r_A_0_46 : (0 : Int) ≤ (A 0 46) ∧ (A 0 46) ≤ 1600 := hI 0 46
  have r_A_0_47 : (0 : Int) ≤ (A 0 47) ∧ (A 0 47) ≤ 1 := hI 0 47
  have r_A_0_53 : (0 : Int) ≤ (A 0 53) ∧ (A 0 53) ≤ 20 := hI 0 53
  have r_A_0_54 : (0 : Int) ≤ (A 0 54) ∧ (A 0 54) ≤ 8 := hI 0 54
  have r_A_0_56 : (0 : Int) ≤ (A 0 56) ∧ (A 0 56) ≤ 500 := hI 0 56
  have hop := hp0.1
  have hI := hIv
  refine lv_iload_n hx hb (dk_at dkX12_goesOn_12 15 rfl) rfl (lv_at hl 2 rfl) ?_
  refine lv_iconst (v := iI 2) hx hb (dk_at dkX12_goesOn_13 0 rfl) (by decide +kernel) ?_
  refine lv_icmp_ge (tgt := 428) hx hb (dk_at dkX12_goesOn_13 1 rfl) (by decide) (fun c559 => ?_) (fun c559 => ?_)
  · have c559 : 2 ≤ z1 := (i_le ⟨by decide, by decide⟩ (rb rz1 (by decide) (by decide))).mp c559
    refine lv_iload_n hx hb (dk_at dkX12_goesOn_13 10 rfl) rfl (lv_at hl 2 rfl) ?_
    refine lv_iconst (v := iI 3) hx hb (dk_at dkX12_goesOn_13 11 rfl) (by decide +kernel) ?_
    refine lv_icmp_ne (tgt := 483) hx hb (dk_at dkX12_goesOn_13 12 rfl) (by decide) (fun c560 => ?_) (fun c560 => ?_)
    · have c560 : ¬ z1 = 3 := mt (i_eq (rb rz1 (by decide) (by decide)) ⟨by decide, by decide⟩).mpr c560
      refine lv_aload_n hx hb (dk_at dkX12_goesOn_15 10 rfl) rfl (lv_at hl 0 rfl) ?_
      refine lv_iload_n hx hb (dk_at dkX12_goesOn_15 11 rfl) rfl (lv_at hl 2 rfl) ?_
      refine lv_iconst (v := iI 5) hx hb (dk_at dkX12_goesOn_15 12 rfl) (by decide +kernel) ?_
      have J496_562 : ∀ (z563 : Int) (H : Heap) (locs : List Loc) (ls : Array Slot), (41 ≤ z563 ∧ z563 ≤ 93) → ((z563 = 41 ∧ ¬ z1 = 5) ∨ (z563 = 93 ∧ z1 = 5)) → (∀ (z : Int) (u : St), (d_X12_goesOn_9 z1 A A558 z u z563) → r_X12_goesOn A z u) → va_P (dC, dI) vwCl (WM cI cJ cZ q A558) H → va_S AS s.heap H locs → lv_has ls 5 [(0, .ref (q 0)), (1, .int (iI ((A 0 53) - 1))), (2, .int (iI z1))] → W p l e (headSpec ws_mb_X12_goesOn ({ frames := 2, cells := 0, slots := 0, locals := 47 } : Room)).room s m [.ref (q 0)].toArray below meth c H locs 0 0 Q (F0 m 496 ls [.int (iI z563), .ref (q 0)]) := by
        intro z563 H locs ls f565 f566 hk9 hP hS hl
        have e_A558_3 : A558 0 3 = (A 0 3) := (hj557.2 3 rfl)
        have e_A558_6 : A558 0 6 = (A 0 6) := (hj557.2 6 rfl)
        have r_A_0_6 : (-2147483648 : Int) ≤ (A 0 6) ∧ (A 0 6) ≤ 2147483647 := by rw [← e_A558_6]; exact hI 0 6
        refine x_calli (As := [.int (iI z563)]) (rest := []) ⟨hx, hb, hml, hown, hts⟩ (mb_X12_isSign l dC dI cB cI cJ cZ cQ q _ z563 hI (rb f565 (by decide) (by decide))) (cwV 1 hts (goodV wlq_0_37 wlq_0_38 wlq_0_39 wlq_0_8 wlq_0_34) rfl rfl rfl (by decide +kernel) ⟨Nat.le_of_ble_eq_true rfl, Nat.le_of_ble_eq_true rfl⟩) hK hDD hA0 hP hS 0 12 wm0 rfl rfl hl.1 (Nat.le_of_ble_eq_true rfl) (dk_at dkX12_goesOn_16 1 rfl) (fun z567 A568 H locs hw569 hP hS => ?_)
        obtain ⟨rfl, hw569⟩ := hw569
        have ghw569 : q_X12_isSign z563 A558 z567 := hw569
        have hw569 := hw569.2
        have rz567 : 0 ≤ z567 ∧ z567 ≤ 1 := hw569.1
        replace hw569 := Hd.mk hw569.2
        refine lv_if_ne (tgt := 511) hx hb (dk_at dkX12_goesOn_16 2 rfl) (by decide) (fun c570 => ?_) (fun c570 => ?_)
        · have c570 : ¬ z567 = 0 := mt (i_eq0 (rb rz567 (by decide) (by decide))).mpr c570
          have hw569b := hw569.out.mp (by omega)
          have r_A558_0_8 : (0 : Int) ≤ (A558 0 8) ∧ (A558 0 8) ≤ 5 := hI 0 8
          exact mb_X12_goesOn_c511 l dC dI cB cI cJ cZ cQ q A hI0 hp0 hp1 hp2 hp3 hp4 hcCI p e s m below meth c Q AS hx hb hml hown hts hK hDD hA0 RET _ _ _ z1 (by omega) hz1 _ hI (fr.trans (fr.rf) hj557 rfl rfl) (by exact Hd.mk (by  omega)) (fun zq uq hq => hk9 _ _ (u_d_X12_goesOn_9 ⟨f565, ⟨z567, ghw569, (Or.inl ⟨c570, hq⟩)⟩⟩)) hP hS (lv_sub hl [0, 1, 2] rfl)
        · have c570 : z567 = 0 := (i_eq0 (rb rz567 (by decide) (by decide))).mp c570
          refine lv_aload_n hx hb (dk_at dkX12_goesOn_16 3 rfl) rfl (lv_at hl 0 rfl) ?_
          refine lv_iconst (v := iI 1) hx hb (dk_at dkX12_goesOn_16 4 rfl) (by decide +kernel) ?_
          refine lv_aload_n hx hb (dk_at dkX12_goesOn_16 5 rfl) rfl (lv_at hl 0 rfl) ?_
          have e_A558_4 : A558 0 4 = (A 0 4) := (hj557.2 4 rfl)
          refine va_get (D := (dC, dI)) (ci := 12) (v := .int (iI (A558 0 4))) (C := RX12) (T := TX12) (N := 85) hx hb hts hiX12 hown hK hP 0 wm0 rfl 4 (by decide) (hts _ (List.mem_cons_of_mem _ wlq_0_23)) (fun _ h9 => h9) rfl (dk_at dkX12_goesOn_16 6 rfl) ?_
          refine tp_i (y := iI (A 0 4)) (congrArg iI e_A558_4) ?_
          refine x_callv (As := [.int (iI 1), .int (iI (A 0 4))]) (rest := []) ⟨hx, hb, hml, hown, hts⟩ (mc_X12_blame l dC dI cB cI cJ cZ cQ q _ 1 (A 0 4) hI ⟨by decide, by decide⟩ r_A_0_4) (cwV 2 hts (goodV wlq_0_31 wlq_0_32 wlq_0_33 wlq_0_8 wlq_0_15) rfl rfl rfl (by decide +kernel) ⟨Nat.le_of_ble_eq_true rfl, Nat.le_of_ble_eq_true rfl⟩) hK hDD hA0 hP hS 0 12 wm0 rfl rfl hl.1 (Nat.le_of_ble_eq_true rfl) (dk_at dkX12_goesOn_16 7 rfl) (fun A572 H locs hw573 hP hS => ?_)
          have ghw573 : q_X12_blame 1 (A 0 4) A558 A572 := hw573
          obtain ⟨_, hI, hf574, hw573⟩ := hw573
          have r_A572_0_8 : (0 : Int) ≤ (A572 0 8) ∧ (A572 0 8) ≤ 5 := hI 0 8
          have e_A572_3 : A572 0 3 = (A 0 3) := (hf574.2 3 rfl).trans e_A558_3
          exact mb_X12_goesOn_c511 l dC dI cB cI cJ cZ cQ q A hI0 hp0 hp1 hp2 hp3 hp4 hcCI p e s m below meth c Q AS hx hb hml hown hts hK hDD hA0 RET _ _ _ z1 (by omega) hz1 _ hI (fr.trans (fr.trans (fr.rf) hj557 rfl rfl) hf574 rfl rfl) (by exact Hd.mk (by  omega)) (fun zq uq hq => hk9 _ _ (u_d_X12_goesOn_9 ⟨f565, ⟨z567, ghw569, (Or.inr ⟨c570, ⟨A572, ghw573, hq⟩⟩)⟩⟩)) hP hS (lv_sub hl [0, 1, 2] rfl)
      refine lv_icmp_ne (tgt := 494) hx hb (dk_at dkX12_goesOn_15 13 rfl) (by decide) (fun c561 => ?_) (fun c561 => ?_)
      · have c561 : ¬ z1 = 5 := mt (i_eq (rb rz1 (by decide) (by decide)) ⟨by decide, by decide⟩).mpr c561
        refine lv_bipush (v := iI 41) hx hb (dk_at dkX12_goesOn_16 0 rfl) (by decide +kernel) ?_
        exact J496_562 41 _ _ _ (by omega) (by omega) (fun zq uq hq => hk8 _ _ (u_d_X12_goesOn_8 ⟨hIv, (Or.inl ⟨c559, (Or.inl ⟨c560, (Or.inl ⟨c561, hq⟩)⟩)⟩)⟩)) hP hS (lv_sub hl [0, 1, 2] rfl)
      · have c561 : z1 = 5 := (i_eq (rb rz1 (by decide) (by decide)) ⟨by decide, by decide⟩).mp c561
        refine lv_bipush (v := iI 93) hx hb (dk_at dkX12_goesOn_15 14 rfl) (by decide +kernel) ?_
        refine lv_goto (tgt := 496) hx hb (dk_at dkX12_goesOn_15 15 rfl) (by decide) ?_
        exact J496_562 93 _ _ _ (by omega) (by omega) (fun zq uq hq => hk8 _ _ (u_d_X12_goesOn_8 ⟨hIv, (Or.inl ⟨c559, (Or.inl ⟨c560, (Or.inr ⟨c561, hq⟩)⟩)⟩)⟩)) hP hS (lv_sub hl [0, 1, 2] rfl)
    · have c560 : z1 = 3 := (i_eq (rb rz1 (by decide) (by decide)) ⟨by decide, by decide⟩).mp c560
      refine lv_aload_n hx hb (dk_at dkX12_goesOn_13 13 rfl) rfl (lv_at hl 0 rfl) ?_
      refine lv_bipush (v := iI 44) hx hb (dk_at dkX12_goesOn_13 14 rfl) (by decide +kernel) ?_
      have e_A558_3 : A558 0 3 = (A 0 3) := (hj557.2 3 rfl)
      have e_A558_6 : A558 0 6 = (A 0 6) := (hj557.2 6 rfl)
      have r_A_0_6 : (-2147483648 : Int) ≤ (A 0 6) ∧ (A 0 6) ≤ 2147483647 := by rw [← e_A558_6]; exact hI 0 6
      refine x_calli (As := [.int (iI 44)]) (rest := []) ⟨hx, hb, hml, hown, hts⟩ (mb_X12_isSign l dC dI cB cI cJ cZ cQ q _ 44 hI ⟨by decide, by decide⟩) (cwV 1 hts (goodV wlq_0_37 wlq_0_38 wlq_0_39 wlq_0_8 wlq_0_34) rfl rfl rfl (by decide +kernel) ⟨Nat.le_of_ble_eq_true rfl, Nat.le_of_ble_eq_true rfl⟩) hK hDD hA0 hP hS 0 12 wm0 rfl rfl hl.1 (Nat.le_of_ble_eq_true rfl) (dk_at dkX12_goesOn_13 15 rfl) (fun z703 A704 H locs hw705 hP hS => ?_)
      obtain ⟨rfl, hw705⟩ := hw705
      have ghw705 : q_X12_isSign 44 A558 z703 := hw705
      have hw705 := hw705.2
      have rz703 : 0 ≤ z703 ∧ z703 ≤ 1 := hw705.1
      replace hw705 := Hd.mk hw705.2
      have J451_707 : ∀ (A712 : St) (H : Heap) (locs : List Loc) (ls : Array Slot), (Hd ((A712 0 8) = 0 → (A712 0 3) = 3)) → (∀ (z : Int) (u : St), (d_X12_goesOn_11 A z u A712) → r_X12_goesOn A z u) → IM A712 → fr [] [8, 9] A558 A712 → va_P (dC, dI) vwCl (WM cI cJ cZ q A712) H → va_S AS s.heap H locs → lv_has ls 5 [(0, .ref (q 0)), (1, .int (iI ((A 0 53) - 1))), (2, .int (iI z1))] → W p l e (headSpec ws_mb_X12_goesOn ({ frames := 2, cells := 0, slots := 0, locals := 47 } : Room)).room s m [.ref (q 0)].toArray below meth c H locs 0 0 Q (F0 m 451 ls []) := by
        intro A712 H locs ls f713 hk11 hI hj711 hP hS hl
        have gI714 : Hd (IM A712) := Hd.mk hI
        refine lv_aload_n hx hb (dk_at dkX12_goesOn_14 6 rfl) rfl (lv_at hl 0 rfl) ?_
        refine va_get (D := (dC, dI)) (ci := 12) (v := .int (iI (A712 0 8))) (C := RX12) (T := TX12) (N := 85) hx hb hts hiX12 hown hK hP 0 wm0 rfl 8 (by decide) (hts _ (List.mem_cons_of_mem _ wlq_0_16)) (fun _ h9 => h9) rfl (dk_at dkX12_goesOn_14 7 rfl) ?_
        have r_A712_0_8 : (0 : Int) ≤ (A712 0 8) ∧ (A712 0 8) ≤ 5 := hI 0 8
        refine lv_if_le (tgt := 460) hx hb (dk_at dkX12_goesOn_14 8 rfl) (by decide) (fun c715 => ?_) (fun c715 => ?_)
        · have c715 : (A712 0 8) ≤ 0 := (i_le0 (rb r_A712_0_8 (by decide) (by decide))).mp c715
          refine lv_aload_n hx hb (dk_at dkX12_goesOn_14 11 rfl) rfl (lv_at hl 0 rfl) ?_
          refine lv_iconst (v := iI 1) hx hb (dk_at dkX12_goesOn_14 12 rfl) (by decide +kernel) ?_
          refine x_callv (As := [.int (iI 1)]) (rest := []) ⟨hx, hb, hml, hown, hts⟩ (mb_X12_joins l dC dI cB cI cJ cZ cQ q _ 1 hI ⟨by decide, by decide⟩ (by exact (RI1.fr (RI1.fr hp0 hj557 rfl rfl) hj711 rfl rfl)) (CI.fr (CI.fr hcCI hj557 rfl rfl) hj711 rfl rfl) (SP.fr (SP.fr hp4 hj557 rfl rfl) hj711 rfl rfl)) (cwV 1 hts (goodV wlq_2_10 wlq_2_11 wlq_2_12 wlq_0_8 wlq_1_34) rfl rfl rfl (by decide +kernel) ⟨Nat.le_of_ble_eq_true rfl, Nat.le_of_ble_eq_true rfl⟩) hK hDD hA0 hP hS 0 12 wm0 rfl rfl hl.1 (Nat.le_of_ble_eq_true rfl) (dk_at dkX12_goesOn_14 13 rfl) (fun A716 H locs hw717 hP hS => ?_)
          have ghw717 : q_X12_joins 1 A712 A716 := hw717
          obtain ⟨_, hI, hf718, hw717⟩ := hw717
          obtain ⟨hc719, hw717⟩ := hw717
          obtain ⟨hc720, hw717⟩ := hw717
          have e_A558_53 : A558 0 53 = (A 0 53) := (hj557.2 53 rfl)
          have e_A712_53 : A712 0 53 = (A 0 53) := (hj711.2 53 rfl).trans e_A558_53
          have e_A716_53 : A716 0 53 = (A 0 53) := (hf718.2 53 rfl).trans e_A712_53
          have r_A716_0_56 : (0 : Int) ≤ (A716 0 56) ∧ (A716 0 56) ≤ 500 := hI 0 56
          have hj1 := hw717.1
          have hj2 := Hd.mk hw717.2
          clear hw717
          have hIj := hI
          have hrj := RI.room hj1 hIj
          have e_A712_3 : A712 0 3 = (A 0 3) := (hj711.2 3 rfl).trans e_A558_3
          have e_A716_3 : A716 0 3 = (A 0 3) := (hf718.2 3 rfl).trans e_A712_3
          have e_A558_4 : A558 0 4 = (A 0 4) := (hj557.2 4 rfl)
          have e_A712_4 : A712 0 4 = (A 0 4) := (hj711.2 4 rfl).trans e_A558_4
          have e_A716_4 : A716 0 4 = (A 0 4) := (hf718.2 4 rfl).trans e_A712_4
          have e_A558_5 : A558 0 5 = (A 0 5) := (hj557.2 5 rfl)
          have e_A712_5 : A712 0 5 = (A 0 5) := (hj711.2 5 rfl).trans e_A558_5
          have e_A716_5 : A716 0 5 = (A 0 5) := (hf718.2 5 rfl).trans e_A712_5
          have e_A558_7 : A558 0 7 = (A 0 7) := (hj557.2 7 rfl)
          have e_A712_7 : A712 0 7 = (A 0 7) := (hj711.2 7 rfl).trans e_A558_7
          have e_A716_7 : A716 0 7 = (A 0 7) := (hf718.2 7 rfl).trans e_A712_7
          have e_A716_8 : A716 0 8 = (A712 0 8) := (hf718.2 8 rfl)
          have e_A558_47 : A558 0 47 = (A 0 47) := (hj557.2 47 rfl)
          have e_A712_47 : A712 0 47 = (A 0 47) := (hj711.2 47 rfl).trans e_A558_47
          have e_A716_47 : A716 0 47 = (A 0 47) := (hf718.2 47 rfl).trans e_A712_47
          have e_A558_54 : A558 0 54 = (A 0 54) := (hj557.2 54 rfl)
          have e_A712_54 : A712 0 54 = (A 0 54) := (hj711.2 54 rfl).trans e_A558_54
          have e_A716_54 : A716 0 54 = (A 0 54) := (hf718.2 54 rfl).trans e_A712_54
          have r_A716_0_46 : (0 : Int) ≤ (A716 0 46) ∧ (A716 0 46) ≤ 1600 := hI 0 46
          refine lv_aload_n hx hb (dk_at dkX12_goesOn_14 14 rfl) rfl (lv_at hl 0 rfl) ?_
          refine va_get (D := (dC, dI)) (ci := 12) (v := .ref (q 35)) (C := RX12) (T := TX12) (N := 85) hx hb hts hiX12 hown hK hP 0 wm0 rfl 48 (by decide) (hts _ (List.mem_cons_of_mem _ wlq_1_46)) (fun _ h9 => h9) rfl (dk_at dkX12_goesOn_14 15 rfl) ?_
          refine lv_iload_n hx hb (dk_at dkX12_goesOn_15 0 rfl) rfl (lv_at hl 1 rfl) ?_
          refine lv_iconst (v := iI 4) hx hb (dk_at dkX12_goesOn_15 1 rfl) (by decide +kernel) ?_
          refine x_iast hx hb hK hP hDD hS 35 1 wm35 rfl (by omega) (by decide) (dk_at dkX12_goesOn_15 2 rfl) ws35 (fun H locs hP hS => ?_)
          have hI := hI.st (j := 35) (i := ((A 0 53) - 1).toNat) (v := 4) (show (0 : Int) ≤ 4 ∧ 4 ≤ 5 from (by omega))
          refine lv_aload_n hx hb (dk_at dkX12_goesOn_15 3 rfl) rfl (lv_at hl 0 rfl) ?_
          obtain ⟨A721, hA721⟩ : ∃ A721 : St, A721 = (stA A716 35 ((A 0 53) - 1).toNat 4) := ⟨_, rfl⟩
          rw [← hA721] at hP hI
          have e_A721_4 : A721 0 4 = (A 0 4) := by rw [hA721]; exact e_A716_4
          have e_A721_5 : A721 0 5 = (A 0 5) := by rw [hA721]; exact e_A716_5
          have e_A721_8 : A721 0 8 = (A712 0 8) := by rw [hA721]; exact e_A716_8
          refine x_callv (As := []) (rest := []) ⟨hx, hb, hml, hown, hts⟩ (mb_X12_ahead l dC dI cB cI cJ cZ cQ q _ hI) (cwV 0 hts (goodV wlq_0_40 wlq_0_41 wlq_0_42 wlq_0_8 wlq_0_20) rfl rfl rfl (by decide +kernel) ⟨Nat.le_of_ble_eq_true rfl, Nat.le_of_ble_eq_true rfl⟩) hK hDD hA0 hP hS 0 12 wm0 rfl rfl hl.1 (Nat.le_of_ble_eq_true rfl) (dk_at dkX12_goesOn_15 4 rfl) (fun A722 H locs hw723 hP hS => ?_)
          have ghw723 : q_X12_ahead A721 A722 := hw723
          obtain ⟨_, hI, hf724, hw723⟩ := hw723
          have r_A722_0_3 : (0 : Int) ≤ (A722 0 3) ∧ (A722 0 3) ≤ 3 := hI 0 3
          have r_A722_0_4 : (0 : Int) ≤ (A722 0 4) ∧ (A722 0 4) ≤ 1600 := hI 0 4
          have r_A722_0_5 : (0 : Int) ≤ (A722 0 5) ∧ (A722 0 5) ≤ 1600 := hI 0 5
          have r_A722_0_8 : (0 : Int) ≤ (A722 0 8) ∧ (A722 0 8) ≤ 5 := hI 0 8
          have hw723x := hw723.1
          have hw723y := hw723.2.1
          replace hw723 := Hd.mk hw723
          refine lv_aload_n hx hb (dk_at dkX12_goesOn_15 5 rfl) rfl (lv_at hl 0 rfl) ?_
          refine lv_iconst (v := iI 0) hx hb (dk_at dkX12_goesOn_15 6 rfl) (by decide +kernel) ?_
          refine x_put (D := (dC, dI)) (ci := 12) (v := .int (iI 0)) (ty := .boolean) (C := RX12) (T := TX12) (N := 85) hx hb hts hiX12 tyX12 tyX12_ok nmX12 hown hK hP hDD hS 0 wm0 rfl 57 (by decide) (hts _ (List.mem_cons_of_mem _ wlq_2_9)) (fun _ h9 => h9) rfl (by decide +kernel) (by decide +kernel) rfl (Nat.le_of_ble_eq_true rfl) (dk_at dkX12_goesOn_15 7 rfl) (wf57 (v := 0)) (fun H locs hP hS => ?_)
          have hI := hI.st (j := 0) (i := 57) (v := 0) (show (0 : Int) ≤ 0 ∧ 0 ≤ 1 from (by omega))
          refine lv_iconst (v := iI 1) hx hb (dk_at dkX12_goesOn_15 8 rfl) (by decide +kernel) ?_
          obtain ⟨A725, hA725⟩ : ∃ A725 : St, A725 = (stA A722 0 57 0) := ⟨_, rfl⟩
          rw [← hA725] at hP hI
          have e_A725_4 : A725 0 4 = (A722 0 4) := by rw [hA725]; exact rfl
          have e_A725_5 : A725 0 5 = (A722 0 5) := by rw [hA725]; exact rfl
          have e_A725_8 : A725 0 8 = (A722 0 8) := by rw [hA725]; exact rfl
          have e_A721_46 : A721 0 46 = (A716 0 46) := by rw [hA721]; exact rfl
          have e_A722_46 : A722 0 46 = (A716 0 46) := (hf724.2 46 rfl).trans e_A721_46
          have e_A725_46 : A725 0 46 = (A716 0 46) := by rw [hA725]; exact e_A722_46
          have e_A721_47 : A721 0 47 = (A 0 47) := by rw [hA721]; exact e_A716_47
          have e_A722_47 : A722 0 47 = (A 0 47) := (hf724.2 47 rfl).trans e_A721_47
          have e_A725_47 : A725 0 47 = (A 0 47) := by rw [hA725]; exact e_A722_47
          have e_A725_57 : A725 0 57 = 0 := by rw [hA725]; rfl
          have ca726 : A558 35 = A 35 := (hj557.1 35 (by decide) rfl)
          have ca727 : A712 35 = A 35 := (hj711.1 35 (by decide) rfl).trans ca726
          have ca728 : A716 35 = A 35 := (hf718.1 35 (by decide) rfl).trans ca727
          have ca729 : A725 1 = A722 1 := by rw [hA725]; exact rfl
          have e_A725_3 : A725 0 3 = (A722 0 3) := by rw [hA725]; exact rfl
          have e_A725_7 : A725 0 7 = (A722 0 7) := by rw [hA725]; exact rfl
          have gs := f713.out (by omega)
          have hlt := RI.lt hp0 (by omega)
          have e35 : A721 35 = up (A716 35) (A716 0 53 - 1).toNat 4 := by rw [hA721]; show up (A716 35) _ _ = _; rw [e_A716_53]
          have ca730 : A722 35 = A721 35 := (hf724.1 35 (by decide) rfl)
          have ca731 : A725 35 = A721 35 := by rw [hA725]; exact ca730
          have ca732 : A721 29 = A716 29 := by rw [hA721]; exact rfl
          have ca733 : A722 29 = A716 29 := (hf724.1 29 (by decide) rfl).trans ca732
          have ca734 : A725 29 = A716 29 := by rw [hA725]; exact ca733
          have ca735 : A721 31 = A716 31 := by rw [hA721]; exact rfl
          have ca736 : A722 31 = A716 31 := (hf724.1 31 (by decide) rfl).trans ca735
          have ca737 : A725 31 = A716 31 := by rw [hA725]; exact ca736
          have ca738 : A721 33 = A716 33 := by rw [hA721]; exact rfl
          have ca739 : A722 33 = A716 33 := (hf724.1 33 (by decide) rfl).trans ca738
          have ca740 : A725 33 = A716 33 := by rw [hA725]; exact ca739
          have ca741 : A721 37 = A716 37 := by rw [hA721]; exact rfl
          have ca742 : A722 37 = A716 37 := (hf724.1 37 (by decide) rfl).trans ca741
          have ca743 : A725 37 = A716 37 := by rw [hA725]; exact ca742
          have ca744 : A721 39 = A716 39 := by rw [hA721]; exact rfl
          have ca745 : A722 39 = A716 39 := (hf724.1 39 (by decide) rfl).trans ca744
          have ca746 : A725 39 = A716 39 := by rw [hA725]; exact ca745
          have ca747 : A721 40 = A716 40 := by rw [hA721]; exact rfl
          have ca748 : A722 40 = A716 40 := (hf724.1 40 (by decide) rfl).trans ca747
          have ca749 : A725 40 = A716 40 := by rw [hA725]; exact ca748
          have e_A721_53 : A721 0 53 = (A 0 53) := by rw [hA721]; exact e_A716_53
          have e_A722_53 : A722 0 53 = (A 0 53) := (hf724.2 53 rfl).trans e_A721_53
          have e_A725_53 : A725 0 53 = (A 0 53) := by rw [hA725]; exact e_A722_53
          have e_A721_54 : A721 0 54 = (A 0 54) := by rw [hA721]; exact e_A716_54
          have e_A722_54 : A722 0 54 = (A 0 54) := (hf724.2 54 rfl).trans e_A721_54
          have e_A725_54 : A725 0 54 = (A 0 54) := by rw [hA725]; exact e_A722_54
          have e_A721_56 : A721 0 56 = (A716 0 56) := by rw [hA721]; exact rfl
          have e_A722_56 : A722 0 56 = (A716 0 56) := (hf724.2 56 rfl).trans e_A721_56
          have e_A725_56 : A725 0 56 = (A716 0 56) := by rw [hA725]; exact e_A722_56
          have ca750 : A721 38 = A716 38 := by rw [hA721]; exact rfl
          have ca751 : A722 38 = A716 38 := (hf724.1 38 (by decide) rfl).trans ca750
          have ca752 : A725 38 = A716 38 := by rw [hA725]; exact ca751
          exact RET 1 _ _ _ _ _ ⟨hk11 _ _ (u_d_X12_goesOn_11 ⟨gI714.out, (Or.inl ⟨c715, ⟨A716, ghw717, ⟨A721, hA721, ⟨A722, ghw723, ⟨A725, hA725, ⟨rfl, rfl⟩⟩⟩⟩⟩⟩)⟩), hI, fr_def hA725 (fr.sf (fr.trans (fr_def hA721 (fr.st (fr.trans (fr.trans (fr.trans (fr.rf) hj557 rfl rfl) hj711 rfl rfl) hf718 rfl rfl) (by decide) rfl)) hf724 rfl rfl) rfl), (CI.fr (CI.fr (CI.fr hc719 (fr_def hA721 (fr.st (fr.rf (M := [35]) (N := [])) (by decide) rfl)) rfl rfl) hf724 rfl rfl) (fr_def hA725 (fr.sf (fr.rf (M := []) (N := [57])) rfl)) rfl rfl), ⟨by decide, Hd.mk (fun h0 => ⟨fun _ => ⟨by rw [e_A725_57]; exact RI.comma hj1 hIj (by omega) (by rw [ca728, e_A716_53, ← hz1]; omega) ⟨ca734, ca737, ca740, (ca731.trans e35), ca743, ca746, ca749, e_A725_46, (e_A725_47.trans e_A716_47.symm), (e_A725_53.trans e_A716_53.symm), (e_A725_54.trans e_A716_54.symm), e_A725_56⟩ (by omega) (by omega) (LX.of ca729 e_A725_3 e_A725_4 e_A725_5 e_A725_7 hw723.out.2.2.1), ⟨PR.comma (PR.fr (PR.fr (PR.fr hp2 hj557 rfl rfl) hj711 rfl rfl) hf718 rfl rfl) (by rw [ca728, e_A716_53, ← hz1]; omega) (ca731.trans e35) (e_A725_53.trans e_A716_53.symm) ca752, (SP.fr (SP.fr (SP.fr hc720 (fr_def hA721 (fr.st (fr.rf (M := [35]) (N := [])) (by decide) rfl)) rfl rfl) hf724 rfl rfl) (fr_def hA725 (fr.sf (fr.rf (M := []) (N := [57])) rfl)) rfl rfl)⟩, by omega⟩, fun h => absurd h (by decide)⟩)⟩⟩ hP hS (dk_at dkX12_goesOn_15 9 rfl)
        · have c715 : ¬ (A712 0 8) ≤ 0 := mt (i_le0 (rb r_A712_0_8 (by decide) (by decide))).mpr c715
          refine lv_iconst (v := iI 0) hx hb (dk_at dkX12_goesOn_14 9 rfl) (by decide +kernel) ?_
          have e_A558_4 : A558 0 4 = (A 0 4) := (hj557.2 4 rfl)
          have e_A712_4 : A712 0 4 = (A 0 4) := (hj711.2 4 rfl).trans e_A558_4
          have e_A558_5 : A558 0 5 = (A 0 5) := (hj557.2 5 rfl)
          have e_A712_5 : A712 0 5 = (A 0 5) := (hj711.2 5 rfl).trans e_A558_5
          have e_A558_46 : A558 0 46 = (A 0 46) := (hj557.2 46 rfl)
          have e_A712_46 : A712 0 46 = (A 0 46) := (hj711.2 46 rfl).trans e_A558_46
          have e_A558_47 : A558 0 47 = (A 0 47) := (hj557.2 47 rfl)
          have e_A712_47 : A712 0 47 = (A 0 47) := (hj711.2 47 rfl).trans e_A558_47
          have e_A558_57 : A558 0 57 = (A 0 57) := (hj557.2 57 rfl)
          have e_A712_57 : A712 0 57 = (A 0 57) := (hj711.2 57 rfl).trans e_A558_57
          have r_A_0_57 : (0 : Int) ≤ (A 0 57) ∧ (A 0 57) ≤ 1 := by rw [← e_A712_57]; exact hI 0 57
          exact RET 0 _ _ _ _ _ ⟨hk11 _ _ (u_d_X12_goesOn_11 ⟨gI714.out, (Or.inr ⟨c715, ⟨rfl, rfl⟩⟩)⟩), hI, fr.trans (fr.trans (fr.rf) hj557 rfl rfl) hj711 rfl rfl, (CI.fr (CI.fr hcCI hj557 rfl rfl) hj711 rfl rfl), ⟨by decide, Hd.mk (fun h => absurd h (by omega))⟩⟩ hP hS (dk_at dkX12_goesOn_14 10 rfl)
      refine lv_if_ne (tgt := 451) hx hb (dk_at dkX12_goesOn_14 0 rfl) (by decide) (fun c706 => ?_) (fun c706 => ?_)
      · have c706 : ¬ z703 = 0 := mt (i_eq0 (rb rz703 (by decide) (by decide))).mpr c706
        have hw705b := hw705.out.mp (by omega)
        have r_A558_0_8 : (0 : Int) ≤ (A558 0 8) ∧ (A558 0 8) ≤ 5 := hI 0 8
        exact J451_707 _ _ _ _ (by exact Hd.mk (by  omega)) (fun zq uq hq => hk8 _ _ (u_d_X12_goesOn_8 ⟨hIv, (Or.inl ⟨c559, (Or.inr ⟨c560, ⟨z703, ghw705, (Or.inl ⟨c706, hq⟩)⟩⟩)⟩)⟩)) hI (fr.rf) hP hS (lv_sub hl [0, 1, 2] rfl)
      · have c706 : z703 = 0 := (i_eq0 (rb rz703 (by decide) (by decide))).mp c706
        refine lv_aload_n hx hb (dk_at dkX12_goesOn_14 1 rfl) rfl (lv_at hl 0 rfl) ?_
        refine lv_iconst (v := iI 1) hx hb (dk_at dkX12_goesOn_14 2 rfl) (by decide +kernel) ?_
        refine lv_aload_n hx hb (dk_at dkX12_goesOn_14 3 rfl) rfl (lv_at hl 0 rfl) ?_
        have e_A558_4 : A558 0 4 = (A 0 4) := (hj557.2 4 rfl)
        refine va_get (D := (dC, dI)) (ci := 12) (v := .int (iI (A558 0 4))) (C := RX12) (T := TX12) (N := 85) hx hb hts hiX12 hown hK hP 0 wm0 rfl 4 (by decide) (hts _ (List.mem_cons_of_mem _ wlq_0_23)) (fun _ h9 => h9) rfl (dk_at dkX12_goesOn_14 4 rfl) ?_
        refine tp_i (y := iI (A 0 4)) (congrArg iI e_A558_4) ?_
        refine x_callv (As := [.int (iI 1), .int (iI (A 0 4))]) (rest := []) ⟨hx, hb, hml, hown, hts⟩ (mc_X12_blame l dC dI cB cI cJ cZ cQ q _ 1 (A 0 4) hI ⟨by decide, by decide⟩ r_A_0_4) (cwV 2 hts (goodV wlq_0_31 wlq_0_32 wlq_0_33 wlq_0_8 wlq_0_15) rfl rfl rfl (by decide +kernel) ⟨Nat.le_of_ble_eq_true rfl, Nat.le_of_ble_eq_true rfl⟩) hK hDD hA0 hP hS 0 12 wm0 rfl rfl hl.1 (Nat.le_of_ble_eq_true rfl) (dk_at dkX12_goesOn_14 5 rfl) (fun A708 H locs hw709 hP hS => ?_)
        have ghw709 : q_X12_blame 1 (A 0 4) A558 A708 := hw709
        obtain ⟨_, hI, hf710, hw709⟩ := hw709
        have r_A708_0_8 : (0 : Int) ≤ (A708 0 8) ∧ (A708 0 8) ≤ 5 := hI 0 8
        have e_A708_3 : A708 0 3 = (A 0 3) := (hf710.2 3 rfl).trans e_A558_3
        exact J451_707 _ _ _ _ (by exact Hd.mk (by  omega)) (fun zq uq hq => hk8 _ _ (u_d_X12_goesOn_8 ⟨hIv, (Or.inl ⟨c559, (Or.inr ⟨c560, ⟨z703, ghw705, (Or.inr ⟨c706, ⟨A708, ghw709, hq⟩⟩)⟩⟩)⟩)⟩)) hI (fr.trans (fr.rf) hf710 rfl rfl) hP hS (lv_sub hl [0, 1, 2] rfl)
  · have c559 : ¬ 2 ≤ z1 := mt (i_le ⟨by decide, by decide⟩ (rb rz1 (by decide) (by decide))).mpr c559
    refine lv_aload_n hx hb (dk_at dkX12_goesOn_13 2 rfl) rfl (lv_at hl 0 rfl) ?_
    refine va_get (D := (dC, dI)) (ci := 12) (v := .int (iI (A558 0 8))) (C := RX12) (T := TX12) (N := 85) hx hb hts hiX12 hown hK hP 0 wm0 rfl 8 (by decide) (hts _ (List.mem_cons_of_mem _ wlq_0_16)) (fun _ h9 => h9) rfl (dk_at dkX12_goesOn_13 3 rfl) ?_
    have r_A558_0_8 : (0 : Int) ≤ (A558 0 8) ∧ (A558 0 8) ≤ 5 := hI 0 8
    refine lv_if_ne (tgt := 426) hx hb (dk_at dkX12_goesOn_13 4 rfl) (by decide) (fun c753 => ?_) (fun c753 => ?_)
    · have c753 : ¬ (A558 0 8) = 0 := mt (i_eq0 (rb r_A558_0_8 (by decide) (by decide))).mpr c753
      refine lv_iconst (v := iI 0) hx hb (dk_at dkX12_goesOn_13 8 rfl) (by decide +kernel) ?_
      have e_A558_4 : A558 0 4 = (A 0 4) := (hj557.2 4 rfl)
      have e_A558_5 : A558 0 5 = (A 0 5) := (hj557.2 5 rfl)
      have e_A558_46 : A558 0 46 = (A 0 46) := (hj557.2 46 rfl)
      have e_A558_47 : A558 0 47 = (A 0 47) := (hj557.2 47 rfl)
      have e_A558_57 : A558 0 57 = (A 0 57) := (hj557.2 57 rfl)
      have r_A_0_57 : (0 : Int) ≤ (A 0 57) ∧ (A 0 57) ≤ 1 := by rw [← e_A558_57]; exact hI 0 57
      exact RET 0 _ _ _ _ _ ⟨hk8 _ _ (u_d_X12_goesOn_8 ⟨hIv, (Or.inr ⟨c559, (Or.inl ⟨c753, ⟨rfl, rfl⟩⟩)⟩)⟩), hI, fr.trans (fr.rf) hj557 rfl rfl, (CI.fr hcCI hj557 rfl rfl), ⟨by decide, Hd.mk (fun h => absurd h (by omega))⟩⟩ hP hS (dk_at dkX12_goesOn_13 9 rfl)
    · have c753 : (A558 0 8) = 0 := (i_eq0 (rb r_A558_0_8 (by decide) (by decide))).mp c753
      refine lv_aload_n hx hb (dk_at dkX12_goesOn_13 5 rfl) rfl (lv_at hl 0 rfl) ?_
      refine lv_iconst (v := iI 1) hx hb (dk_at dkX12_goesOn_13 6 rfl) (by decide +kernel) ?_
      refine x_callv (As := [.int (iI 1)]) (rest := []) ⟨hx, hb, hml, hown, hts⟩ (mb_X12_joins l dC dI cB cI cJ cZ cQ q _ 1 hI ⟨by decide, by decide⟩ (by exact (RI1.fr hp0 hj557 rfl rfl)) (CI.fr hcCI hj557 rfl rfl) (SP.fr hp4 hj557 rfl rfl)) (cwV 1 hts (goodV wlq_2_10 wlq_2_11 wlq_2_12 wlq_0_8 wlq_1_34) rfl rfl rfl (by decide +kernel) ⟨Nat.le_of_ble_eq_true rfl, Nat.le_of_ble_eq_true rfl⟩) hK hDD hA0 hP hS 0 12 wm0 rfl rfl hl.1 (Nat.le_of_ble_eq_true rfl) (dk_at dkX12_goesOn_13 7 rfl) (fun A754 H locs hw755 hP hS => ?_)
      have ghw755 : q_X12_joins 1 A558 A754 := hw755
      obtain ⟨_, hI, hf756, hw755⟩ := hw755
      obtain ⟨hc757, hw755⟩ := hw755
      obtain ⟨hc758, hw755⟩ := hw755
      have e_A558_53 : A558 0 53 = (A 0 53) := (hj557.2 53 rfl)
      have e_A754_53 : A754 0 53 = (A 0 53) := (hf756.2 53 rfl).trans e_A558_53
      have r_A754_0_56 : (0 : Int) ≤ (A754 0 56) ∧ (A754 0 56) ≤ 500 := hI 0 56
      have hj1 := hw755.1
      have hj2 := Hd.mk hw755.2
      clear hw755
      have hIj := hI
      have hrj := RI.room hj1 hIj
      have e_A558_3 : A558 0 3 = (A 0 3) := (hj557.2 3 rfl)
      have e_A754_3 : A754 0 3 = (A 0 3) := (hf756.2 3 rfl).trans e_A558_3
      have e_A558_4 : A558 0 4 = (A 0 4) := (hj557.2 4 rfl)
      have e_A754_4 : A754 0 4 = (A 0 4) := (hf756.2 4 rfl).trans e_A558_4
      have e_A558_5 : A558 0 5 = (A 0 5) := (hj557.2 5 rfl)
      have e_A754_5 : A754 0 5 = (A 0 5) := (hf756.2 5 rfl).trans e_A558_5
      have e_A558_7 : A558 0 7 = (A 0 7) := (hj557.2 7 rfl)
      have e_A754_7 : A754 0 7 = (A 0 7) := (hf756.2 7 rfl).trans e_A558_7
      have e_A754_8 : A754 0 8 = (A558 0 8) := (hf756.2 8 rfl)
      have e_A558_47 : A558 0 47 = (A 0 47) := (hj557.2 47 rfl)
      have e_A754_47 : A754 0 47 = (A 0 47) := (hf756.2 47 rfl).trans e_A558_47
      have e_A558_54 : A558 0 54 = (A 0 54) := (hj557.2 54 rfl)
      have e_A754_54 : A754 0 54 = (A 0 54) := (hf756.2 54 rfl).trans e_A558_54
      have r_A754_0_46 : (0 : Int) ≤ (A754 0 46) ∧ (A754 0 46) ≤ 1600 := hI 0 46
      refine lv_iconst (v := iI 0) hx hb (dk_at dkX12_goesOn_13 8 rfl) (by decide +kernel) ?_
      have e_A558_57 : A558 0 57 = (A 0 57) := (hj557.2 57 rfl)
      have e_A754_57 : A754 0 57 = (A 0 57) := (hf756.2 57 rfl).trans e_A558_57
      have r_A_0_57 : (0 : Int) ≤ (A 0 57) ∧ (A 0 57) ≤ 1 := by rw [← e_A754_57]; exact hI 0 57
      have ca759 : A558 35 = A 35 := (hj557.1 35 (by decide) rfl)
      have ca760 : A754 35 = A 35 := (hf756.1 35 (by decide) rfl).trans ca759
      exact RET 0 _ _ _ _ _ ⟨hk8 _ _ (u_d_X12_goesOn_8 ⟨hIv, (Or.inr ⟨c559, (Or.inr ⟨c753, ⟨A754, ghw755, ⟨rfl, rfl⟩⟩⟩)⟩)⟩), hI, fr.trans (fr.trans (fr.rf) hj557 rfl rfl) hf756 rfl rfl, hc757, ⟨by decide, Hd.mk (fun h0 => ⟨fun h => absurd h (by decide), fun _ => ⟨RI.done hj1 hIj (by rw [ca760, e_A754_53, ← hz1]; omega) (RI.full hj2.out), RI.cb hj1 hIj, by omega⟩⟩)⟩⟩ hP hS (dk_at dkX12_goesOn_13 9 rfl)
set_option maxHeartbeats 4000000 in
set_option maxRecDepth 100000 in
theorem mb_X12_goesOn_c387 (l : Launch) (dC : Nat → ClassId) (dI : Nat → Nat → Nat) (cB cI cJ cZ cQ : ClassId) (q : Nat → Nat) (A : St) (hI : IM A) (hp0 : RI 1 A) (hp1 : A 0 8 = 0) (hp2 : PR A) (hp3 : A 0 57 = 1) (hp4 : SP A) (hcCI : CI A) (p : Program) (e : Env) (s : State) (m : MethodId) (below : List Frame) (meth : Method) (c : Code) (Q : State → Prop) (AS : Nat → Prop) (hx : p.tables.exec = Jvm.exec) (hb : c.code = cX12_goesOn) (hml : c.maxLocals = 5) (hown : s.vm.findClass RX12 = some m.cls) (hts : ∀ w ∈ ws_mb_X12_goesOn, w.before [.ref (q 0)].toArray s = true) (hK : va_K (dC, dI) vwCl (tyA cB cI cJ cZ cQ) s) (hDD : ∀ A', va_D AS (WM cI cJ cZ q A')) (hA0 : ∀ b : Nat, s.heap.size ≤ b → AS b) (RET : ∀ (z : Int) (u : St) (H : Heap) (locs : List Loc) (pc : Nat) (ls : Array Slot), ((fun z u => r_X12_goesOn A z u ∧ IM u ∧ fr [33, 34, 35, 36, 37, 40] [3, 4, 5, 6, 7, 8, 9, 46, 53, 54, 56, 57] A u ∧ CI u ∧ ((0 ≤ z ∧ z ≤ 1) ∧ (Hd (u 0 8 = 0 → (z = 1 → RI (u 0 57) u ∧ (PR u ∧ SP u) ∧ A 0 4 + 1 ≤ u 0 4) ∧ (z = 0 → DP (u 33) (sA u) (1600 * u 0 47 + u 0 46) 1 ∧ CB u ∧ A 0 4 ≤ u 0 4))))) z u) → va_P (dC, dI) vwCl (WM cI cJ cZ q u) H → va_S AS s.heap H locs → decode cX12_goesOn pc = .ok (.ireturn, 1) → W p l e (headSpec ws_mb_X12_goesOn ({ frames := 2, cells := 0, slots := 0, locals := 47 } : Room)).room s m [.ref (q 0)].toArray below meth c H locs 0 0 Q (F0 m pc ls [.int (iI z)])) (H : Heap) (locs : List Loc) (ls : Array Slot) (z1 z2 : Int) (rz1 : (0 : Int) ≤ z1 ∧ z1 ≤ 5) (rz2 : (0 : Int) ≤ z2 ∧ z2 ≤ 1) (hz1 : z1 = A 35 ((A 0 53) - 1).toNat) (hk7 : ∀ (z : Int) (u : St), (d_X12_goesOn_7 A z u z1 z2) → r_X12_goesOn A z u) (hP : va_P (dC, dI) vwCl (WM cI cJ cZ q A) H) (hS : va_S AS s.heap H locs) (hl : lv_has ls 5 [(0, .ref (q 0)), (1, .int (iI ((A 0 53) - 1))), (2, .int (iI z1)), (3, .int (iI z2))]) : W p l e (headSpec ws_mb_X12_goesOn ({ frames := 2, cells := 0, slots := 0, locals := 47 } : Room)).room s m [.ref (q 0)].toArray below meth c H locs 0 0 Q (F0 m 387 ls []) := by
  have hiX12 : ∀ w ∈ u_ws RX12 TX12 85, w ∈ ws_mb_X12_goesOn := fun w h => List.mem_cons_of_mem _ (wx_lay w h)
  have hI0 := hI
  have hdp := RI.deep hp0 hI0
  have hrm := RI.room hp0 hI0
  have r_A_0_3 : (0 : Int) ≤ (A 0 3) ∧ (A 0 3) ≤ 3 := hI 0 3
  have r_A_0_4 : (0 : Int) ≤ (A 0 4) ∧ (A 0 4) ≤ 1600 := hI 0 4
  have r_A_0_5 : (0 : Int) ≤ (A 0 5) ∧ (A 0 5) ≤ 1600 := hI 0 5
  have r_A_0_7 : (-9223372036854775808 : Int) ≤ (A 0 7) ∧ (A 0 7) ≤ 9223372036854775807 := hI 0 7
  have r_A_0_8 : (0 : Int) ≤ (A 0 8) ∧ (A 0 8) ≤ 5 := hI 0 8
  have r_A_0_46 : (0 : Int) ≤ (A 0 46) ∧ (A 0 46) ≤ 1600 := hI 0 46
  have r_A_0_47 : (0 : Int) ≤ (A 0 47) ∧ (A 0 47) ≤ 1 := hI 0 47
  have r_A_0_53 : (0 : Int) ≤ (A 0 53) ∧ (A 0 53) ≤ 20 := hI 0 53
  have r_A_0_54 : (0 : Int) ≤ (A 0 54) ∧ (A 0 54) ≤ 8 := hI 0 54
  have r_A_0_56 : (0 : Int) ≤ (A 0 56) ∧ (A 0 56) ≤ 500 := hI 0 56
  have hop := hp0.1
  refine lv_iload_n hx hb (dk_at dkX12_goesOn_12 3 rfl) rfl (lv_at hl 3 rfl) ?_
  refine lv_if_eq (tgt := 409) hx hb (dk_at dkX12_goesOn_12 4 rfl) (by decide) (fun c550 => ?_) (fun c550 => ?_)
  · have c550 : z2 = 0 := (i_eq0 (rb rz2 (by decide) (by decide))).mp c550
    exact mb_X12_goesOn_c409 l dC dI cB cI cJ cZ cQ q A hI0 hp0 hp1 hp2 hp3 hp4 hcCI p e s m below meth c Q AS hx hb hml hown hts hK hDD hA0 RET _ _ _ z1 (by omega) hz1 _ hI (fr.rf) (fun zq uq hq => hk7 _ _ (u_d_X12_goesOn_7 (Or.inl ⟨c550, hq⟩))) hP hS (lv_sub hl [0, 1, 2] rfl)
  · have c550 : ¬ z2 = 0 := mt (i_eq0 (rb rz2 (by decide) (by decide))).mpr c550
    refine lv_aload_n hx hb (dk_at dkX12_goesOn_12 5 rfl) rfl (lv_at hl 0 rfl) ?_
    refine va_get (D := (dC, dI)) (ci := 12) (v := .ref (q 36)) (C := RX12) (T := TX12) (N := 85) hx hb hts hiX12 hown hK hP 0 wm0 rfl 49 (by decide) (hts _ (List.mem_cons_of_mem _ wlq_1_47)) (fun _ h9 => h9) rfl (dk_at dkX12_goesOn_12 6 rfl) ?_
    refine lv_iload_n hx hb (dk_at dkX12_goesOn_12 7 rfl) rfl (lv_at hl 1 rfl) ?_
    refine x_iald hx hb hK hP 36 1 wm36 rfl (by omega) (by decide) (dk_at dkX12_goesOn_12 8 rfl) (fun z552 hz552 => ?_)
    have rz552 : (0 : Int) ≤ z552 ∧ z552 ≤ 2 := by rw [hz552]; exact hI 36 _
    have gz552 := Hd.mk hz552
    have hz552 : z552 = A 36 ((A 0 53) - 1).toNat := hz552
    refine lv_if_ne (tgt := 409) hx hb (dk_at dkX12_goesOn_12 9 rfl) (by decide) (fun c553 => ?_) (fun c553 => ?_)
    · have c553 : ¬ z552 = 0 := mt (i_eq0 (rb rz552 (by decide) (by decide))).mpr c553
      exact mb_X12_goesOn_c409 l dC dI cB cI cJ cZ cQ q A hI0 hp0 hp1 hp2 hp3 hp4 hcCI p e s m below meth c Q AS hx hb hml hown hts hK hDD hA0 RET _ _ _ z1 (by omega) hz1 _ hI (fr.rf) (fun zq uq hq => hk7 _ _ (u_d_X12_goesOn_7 (Or.inr ⟨c550, ⟨z552, gz552.out, (Or.inl ⟨c553, hq⟩)⟩⟩))) hP hS (lv_sub hl [0, 1, 2] rfl)
    · have c553 : z552 = 0 := (i_eq0 (rb rz552 (by decide) (by decide))).mp c553
      refine lv_aload_n hx hb (dk_at dkX12_goesOn_12 10 rfl) rfl (lv_at hl 0 rfl) ?_
      refine lv_iconst (v := iI 1) hx hb (dk_at dkX12_goesOn_12 11 rfl) (by decide +kernel) ?_
      refine lv_aload_n hx hb (dk_at dkX12_goesOn_12 12 rfl) rfl (lv_at hl 0 rfl) ?_
      refine va_get (D := (dC, dI)) (ci := 12) (v := .int (iI (A 0 4))) (C := RX12) (T := TX12) (N := 85) hx hb hts hiX12 hown hK hP 0 wm0 rfl 4 (by decide) (hts _ (List.mem_cons_of_mem _ wlq_0_23)) (fun _ h9 => h9) rfl (dk_at dkX12_goesOn_12 13 rfl) ?_
      refine x_callv (As := [.int (iI 1), .int (iI (A 0 4))]) (rest := []) ⟨hx, hb, hml, hown, hts⟩ (mc_X12_blame l dC dI cB cI cJ cZ cQ q _ 1 (A 0 4) hI ⟨by decide, by decide⟩ r_A_0_4) (cwV 2 hts (goodV wlq_0_31 wlq_0_32 wlq_0_33 wlq_0_8 wlq_0_15) rfl rfl rfl (by decide +kernel) ⟨Nat.le_of_ble_eq_true rfl, Nat.le_of_ble_eq_true rfl⟩) hK hDD hA0 hP hS 0 12 wm0 rfl rfl hl.1 (Nat.le_of_ble_eq_true rfl) (dk_at dkX12_goesOn_12 14 rfl) (fun A554 H locs hw555 hP hS => ?_)
      have ghw555 : q_X12_blame 1 (A 0 4) A A554 := hw555
      obtain ⟨_, hI, hf556, hw555⟩ := hw555
      have r_A554_0_8 : (0 : Int) ≤ (A554 0 8) ∧ (A554 0 8) ≤ 5 := hI 0 8
      exact mb_X12_goesOn_c409 l dC dI cB cI cJ cZ cQ q A hI0 hp0 hp1 hp2 hp3 hp4 hcCI p e s m below meth c Q AS hx hb hml hown hts hK hDD hA0 RET _ _ _ z1 (by omega) hz1 _ hI (fr.trans (fr.rf) hf556 rfl rfl) (fun zq uq hq => hk7 _ _ (u_d_X12_goesOn_7 (Or.inr ⟨c550, ⟨z552, gz552.out, (Or.inr ⟨c553, ⟨A554, ghw555, hq⟩⟩)⟩⟩))) hP hS (lv_sub hl [0, 1, 2] rfl)
set_option maxHeartbeats 4000000 in
set_option maxRecDepth 100000 in
theorem mb_X12_goesOn_c272 (l : Launch) (dC : Nat → ClassId) (dI : Nat → Nat → Nat) (cB cI cJ cZ cQ : ClassId) (q : Nat → Nat) (A : St) (hI : IM A) (hp0 : RI 1 A) (hp1 : A 0 8 = 0) (hp2 : PR A) (hp3 : A 0 57 = 1) (hp4 : SP A) (hcCI : CI A) (p : Program) (e : Env) (s : State) (m : MethodId) (below : List Frame) (meth : Method) (c : Code) (Q : State → Prop) (AS : Nat → Prop) (hx : p.tables.exec = Jvm.exec) (hb : c.code = cX12_goesOn) (hml : c.maxLocals = 5) (hown : s.vm.findClass RX12 = some m.cls) (hts : ∀ w ∈ ws_mb_X12_goesOn, w.before [.ref (q 0)].toArray s = true) (hK : va_K (dC, dI) vwCl (tyA cB cI cJ cZ cQ) s) (hDD : ∀ A', va_D AS (WM cI cJ cZ q A')) (hA0 : ∀ b : Nat, s.heap.size ≤ b → AS b) (RET : ∀ (z : Int) (u : St) (H : Heap) (locs : List Loc) (pc : Nat) (ls : Array Slot), ((fun z u => r_X12_goesOn A z u ∧ IM u ∧ fr [33, 34, 35, 36, 37, 40] [3, 4, 5, 6, 7, 8, 9, 46, 53, 54, 56, 57] A u ∧ CI u ∧ ((0 ≤ z ∧ z ≤ 1) ∧ (Hd (u 0 8 = 0 → (z = 1 → RI (u 0 57) u ∧ (PR u ∧ SP u) ∧ A 0 4 + 1 ≤ u 0 4) ∧ (z = 0 → DP (u 33) (sA u) (1600 * u 0 47 + u 0 46) 1 ∧ CB u ∧ A 0 4 ≤ u 0 4))))) z u) → va_P (dC, dI) vwCl (WM cI cJ cZ q u) H → va_S AS s.heap H locs → decode cX12_goesOn pc = .ok (.ireturn, 1) → W p l e (headSpec ws_mb_X12_goesOn ({ frames := 2, cells := 0, slots := 0, locals := 47 } : Room)).room s m [.ref (q 0)].toArray below meth c H locs 0 0 Q (F0 m pc ls [.int (iI z)])) (H : Heap) (locs : List Loc) (ls : Array Slot) (z1 z2 : Int) (rz1 : (0 : Int) ≤ z1 ∧ z1 ≤ 5) (rz2 : (0 : Int) ≤ z2 ∧ z2 ≤ 1) (hz1 : z1 = A 35 ((A 0 53) - 1).toNat) (hk4 : ∀ (z : Int) (u : St), (d_X12_goesOn_4 A z u z1 z2) → r_X12_goesOn A z u) (hP : va_P (dC, dI) vwCl (WM cI cJ cZ q A) H) (hS : va_S AS s.heap H locs) (hl : lv_has ls 5 [(0, .ref (q 0)), (1, .int (iI ((A 0 53) - 1))), (2, .int (iI z1)), (3, .int (iI z2))]) : W p l e (headSpec ws_mb_X12_goesOn ({ frames := 2, cells := 0, slots := 0, locals := 47 } : Room)).room s m [.ref (q 0)].toArray below meth c H locs 0 0 Q (F0 m 272 ls []) := by
  have hiX12 : ∀ w ∈ u_ws RX12 TX12 85, w ∈ ws_mb_X12_goesOn := fun w h => List.mem_cons_of_mem _ (wx_lay w h)
  have hI0 := hI
  have hdp := RI.deep hp0 hI0
  have hrm := RI.room hp0 hI0
  have r_A_0_3 : (0 : Int) ≤ (A 0 3) ∧ (A 0 3) ≤ 3 := hI 0 3
  have r_A_0_4 : (0 : Int) ≤ (A 0 4) ∧ (A 0 4) ≤ 1600 := hI 0 4
  have r_A_0_5 : (0 : Int) ≤ (A 0 5) ∧ (A 0 5) ≤ 1600 := hI 0 5
  have r_A_0_7 : (-9223372036854775808 : Int) ≤ (A 0 7) ∧ (A 0 7) ≤ 9223372036854775807 := hI 0 7
  have r_A_0_8 : (0 : Int) ≤ (A 0 8) ∧ (A 0 8) ≤ 5 := hI 0 8
  have r_A_0_46 : (0 : Int) ≤ (A 0 46) ∧ (A 0 46) ≤ 1600 := hI 0 46
  have r_A_0_47 : (0 : Int) ≤ (A 0 47) ∧ (A 0 47) ≤ 1 := hI 0 47
  have r_A_0_53 : (0 : Int) ≤ (A 0 53) ∧ (A 0 53) ≤ 20 := hI 0 53
  have r_A_0_54 : (0 : Int) ≤ (A 0 54) ∧ (A 0 54) ≤ 8 := hI 0 54
  have r_A_0_56 : (0 : Int) ≤ (A 0 56) ∧ (A 0 56) ≤ 500 := hI 0 56
  have hop := hp0.1
  refine lv_iload_n hx hb (dk_at dkX12_goesOn_8 7 rfl) rfl (lv_at hl 3 rfl) ?_
  refine lv_if_eq (tgt := 387) hx hb (dk_at dkX12_goesOn_8 8 rfl) (by decide) (fun c424 => ?_) (fun c424 => ?_)
  · have c424 : z2 = 0 := (i_eq0 (rb rz2 (by decide) (by decide))).mp c424
    exact mb_X12_goesOn_c387 l dC dI cB cI cJ cZ cQ q A hI0 hp0 hp1 hp2 hp3 hp4 hcCI p e s m below meth c Q AS hx hb hml hown hts hK hDD hA0 RET _ _ _ z1 z2 (by omega) (by omega) hz1 (fun zq uq hq => hk4 _ _ (u_d_X12_goesOn_4 (Or.inl ⟨c424, hq⟩))) hP hS (lv_sub hl [0, 1, 2, 3] rfl)
  · have c424 : ¬ z2 = 0 := mt (i_eq0 (rb rz2 (by decide) (by decide))).mpr c424
    refine lv_aload_n hx hb (dk_at dkX12_goesOn_8 9 rfl) rfl (lv_at hl 0 rfl) ?_
    refine lv_ldc2 (v := 6385252) hx hb hown (hts _ (List.mem_cons_of_mem _ wlq_1_1)) (dk_at dkX12_goesOn_8 10 rfl) ?_
    refine tp_l (y := jI 6385252) (by decide +kernel) ?_
    refine x_calli (As := [.long (jI 6385252)]) (rest := []) ⟨hx, hb, hml, hown, hts⟩ (mb_X12_isWord l dC dI cB cI cJ cZ cQ q _ 6385252 hI ⟨by decide, by decide⟩) (cwV 1 hts (goodV wlq_1_59 wlq_2_0 wlq_2_1 wlq_0_8 wlq_0_35) rfl rfl rfl (by decide +kernel) ⟨Nat.le_of_ble_eq_true rfl, Nat.le_of_ble_eq_true rfl⟩) hK hDD hA0 hP hS 0 12 wm0 rfl rfl hl.1 (Nat.le_of_ble_eq_true rfl) (dk_at dkX12_goesOn_8 11 rfl) (fun z426 A427 H locs hw428 hP hS => ?_)
    obtain ⟨rfl, hw428⟩ := hw428
    have ghw428 : q_X12_isWord 6385252 A z426 := hw428
    have hw428 := hw428.2
    have rz426 : 0 ≤ z426 ∧ z426 ≤ 1 := hw428.1
    replace hw428 := Hd.mk hw428.2
    refine lv_if_ne (tgt := 296) hx hb (dk_at dkX12_goesOn_8 12 rfl) (by decide) (fun c429 => ?_) (fun c429 => ?_)
    · have c429 : ¬ z426 = 0 := mt (i_eq0 (rb rz426 (by decide) (by decide))).mpr c429
      have hw428b := hw428.out.mp (by omega)
      exact mb_X12_goesOn_c296 l dC dI cB cI cJ cZ cQ q A hI0 hp0 hp1 hp2 hp3 hp4 hcCI p e s m below meth c Q AS hx hb hml hown hts hK hDD hA0 RET _ _ _ z1 z2 (by omega) (by omega) hz1 (by omega) (fun zq uq hq => hk4 _ _ (u_d_X12_goesOn_4 (Or.inr ⟨c424, ⟨z426, ghw428, (Or.inl ⟨c429, hq⟩)⟩⟩))) hP hS (lv_sub hl [0, 1, 2, 3] rfl)
    · have c429 : z426 = 0 := (i_eq0 (rb rz426 (by decide) (by decide))).mp c429
      refine lv_aload_n hx hb (dk_at dkX12_goesOn_8 13 rfl) rfl (lv_at hl 0 rfl) ?_
      refine lv_ldc2 (v := 28530) hx hb hown (hts _ (List.mem_cons_of_mem _ wlq_1_0)) (dk_at dkX12_goesOn_8 14 rfl) ?_
      refine tp_l (y := jI 28530) (by decide +kernel) ?_
      refine x_calli (As := [.long (jI 28530)]) (rest := []) ⟨hx, hb, hml, hown, hts⟩ (mb_X12_isWord l dC dI cB cI cJ cZ cQ q _ 28530 hI ⟨by decide, by decide⟩) (cwV 1 hts (goodV wlq_1_59 wlq_2_0 wlq_2_1 wlq_0_8 wlq_0_35) rfl rfl rfl (by decide +kernel) ⟨Nat.le_of_ble_eq_true rfl, Nat.le_of_ble_eq_true rfl⟩) hK hDD hA0 hP hS 0 12 wm0 rfl rfl hl.1 (Nat.le_of_ble_eq_true rfl) (dk_at dkX12_goesOn_8 15 rfl) (fun z431 A432 H locs hw433 hP hS => ?_)
      obtain ⟨rfl, hw433⟩ := hw433
      have ghw433 : q_X12_isWord 28530 A z431 := hw433
      have hw433 := hw433.2
      have rz431 : 0 ≤ z431 ∧ z431 ≤ 1 := hw433.1
      replace hw433 := Hd.mk hw433.2
      refine lv_if_eq (tgt := 387) hx hb (dk_at dkX12_goesOn_9 0 rfl) (by decide) (fun c434 => ?_) (fun c434 => ?_)
      · have c434 : z431 = 0 := (i_eq0 (rb rz431 (by decide) (by decide))).mp c434
        exact mb_X12_goesOn_c387 l dC dI cB cI cJ cZ cQ q A hI0 hp0 hp1 hp2 hp3 hp4 hcCI p e s m below meth c Q AS hx hb hml hown hts hK hDD hA0 RET _ _ _ z1 z2 (by omega) (by omega) hz1 (fun zq uq hq => hk4 _ _ (u_d_X12_goesOn_4 (Or.inr ⟨c424, ⟨z426, ghw428, (Or.inr ⟨c429, ⟨z431, ghw433, (Or.inl ⟨c434, hq⟩)⟩⟩)⟩⟩))) hP hS (lv_sub hl [0, 1, 2, 3] rfl)
      · have c434 : ¬ z431 = 0 := mt (i_eq0 (rb rz431 (by decide) (by decide))).mpr c434
        have hw433b := hw433.out.mp (by omega)
        exact mb_X12_goesOn_c296 l dC dI cB cI cJ cZ cQ q A hI0 hp0 hp1 hp2 hp3 hp4 hcCI p e s m below meth c Q AS hx hb hml hown hts hK hDD hA0 RET _ _ _ z1 z2 (by omega) (by omega) hz1 (by omega) (fun zq uq hq => hk4 _ _ (u_d_X12_goesOn_4 (Or.inr ⟨c424, ⟨z426, ghw428, (Or.inr ⟨c429, ⟨z431, ghw433, (Or.inr ⟨c434, hq⟩)⟩⟩)⟩⟩))) hP hS (lv_sub hl [0, 1, 2, 3] rfl)
set_option maxHeartbeats 4000000 in
set_option maxRecDepth 100000 in
theorem mb_X12_goesOn_c175 (l : Launch) (dC : Nat → ClassId) (dI : Nat → Nat → Nat) (cB cI cJ cZ cQ : ClassId) (q : Nat → Nat) (A : St) (hI : IM A) (hp0 : RI 1 A) (hp1 : A 0 8 = 0) (hp2 : PR A) (hp3 : A 0 57 = 1) (hp4 : SP A) (hcCI : CI A) (p : Program) (e : Env) (s : State) (m : MethodId) (below : List Frame) (meth : Method) (c : Code) (Q : State → Prop) (AS : Nat → Prop) (hx : p.tables.exec = Jvm.exec) (hb : c.code = cX12_goesOn) (hml : c.maxLocals = 5) (hown : s.vm.findClass RX12 = some m.cls) (hts : ∀ w ∈ ws_mb_X12_goesOn, w.before [.ref (q 0)].toArray s = true) (hK : va_K (dC, dI) vwCl (tyA cB cI cJ cZ cQ) s) (hDD : ∀ A', va_D AS (WM cI cJ cZ q A')) (hA0 : ∀ b : Nat, s.heap.size ≤ b → AS b) (RET : ∀ (z : Int) (u : St) (H : Heap) (locs : List Loc) (pc : Nat) (ls : Array Slot), ((fun z u => r_X12_goesOn A z u ∧ IM u ∧ fr [33, 34, 35, 36, 37, 40] [3, 4, 5, 6, 7, 8, 9, 46, 53, 54, 56, 57] A u ∧ CI u ∧ ((0 ≤ z ∧ z ≤ 1) ∧ (Hd (u 0 8 = 0 → (z = 1 → RI (u 0 57) u ∧ (PR u ∧ SP u) ∧ A 0 4 + 1 ≤ u 0 4) ∧ (z = 0 → DP (u 33) (sA u) (1600 * u 0 47 + u 0 46) 1 ∧ CB u ∧ A 0 4 ≤ u 0 4))))) z u) → va_P (dC, dI) vwCl (WM cI cJ cZ q u) H → va_S AS s.heap H locs → decode cX12_goesOn pc = .ok (.ireturn, 1) → W p l e (headSpec ws_mb_X12_goesOn ({ frames := 2, cells := 0, slots := 0, locals := 47 } : Room)).room s m [.ref (q 0)].toArray below meth c H locs 0 0 Q (F0 m pc ls [.int (iI z)])) (H : Heap) (locs : List Loc) (ls : Array Slot) (z1 z2 : Int) (rz1 : (0 : Int) ≤ z1 ∧ z1 ≤ 5) (rz2 : (0 : Int) ≤ z2 ∧ z2 ≤ 1) (hz1 : z1 = A 35 ((A 0 53) - 1).toNat) (hk2 : ∀ (z : Int) (u : St), (d_X12_goesOn_2 A z u z1 z2) → r_X12_goesOn A z u) (hP : va_P (dC, dI) vwCl (WM cI cJ cZ q A) H) (hS : va_S AS s.heap H locs) (hl : lv_has ls 5 [(0, .ref (q 0)), (1, .int (iI ((A 0 53) - 1))), (2, .int (iI z1)), (3, .int (iI z2))]) : W p l e (headSpec ws_mb_X12_goesOn ({ frames := 2, cells := 0, slots := 0, locals := 47 } : Room)).room s m [.ref (q 0)].toArray below meth c H locs 0 0 Q (F0 m 175 ls []) := by
  have hiX12 : ∀ w ∈ u_ws RX12 TX12 85, w ∈ ws_mb_X12_goesOn := fun w h => List.mem_cons_of_mem _ (wx_lay w h)
  have hI0 := hI
  have hdp := RI.deep hp0 hI0
  have hrm := RI.room hp0 hI0
  have r_A_0_3 : (0 : Int) ≤ (A 0 3) ∧ (A 0 3) ≤ 3 := hI 0 3
  have r_A_0_4 : (0 : Int) ≤ (A 0 4) ∧ (A 0 4) ≤ 1600 := hI 0 4
  have r_A_0_5 : (0 : Int) ≤ (A 0 5) ∧ (A 0 5) ≤ 1600 := hI 0 5
  have r_A_0_7 : (-9223372036854775808 : Int) ≤ (A 0 7) ∧ (A 0 7) ≤ 9223372036854775807 := hI 0 7
  have r_A_0_8 : (0 : Int) ≤ (A 0 8) ∧ (A 0 8) ≤ 5 := hI 0 8
  have r_A_0_46 : (0 : Int) ≤ (A 0 46) ∧ (A 0 46) ≤ 1600 := hI 0 46
  have r_A_0_47 : (0 : Int) ≤ (A 0 47) ∧ (A 0 47) ≤ 1 := hI 0 47
  have r_A_0_53 : (0 : Int) ≤ (A 0 53) ∧ (A 0 53) ≤ 20 := hI 0 53
  have r_A_0_54 : (0 : Int) ≤ (A 0 54) ∧ (A 0 54) ≤ 8 := hI 0 54
  have r_A_0_56 : (0 : Int) ≤ (A 0 56) ∧ (A 0 56) ≤ 500 := hI 0 56
  have hop := hp0.1
  refine lv_iload_n hx hb (dk_at dkX12_goesOn_5 6 rfl) rfl (lv_at hl 3 rfl) ?_
  refine lv_if_eq (tgt := 272) hx hb (dk_at dkX12_goesOn_5 7 rfl) (by decide) (fun c257 => ?_) (fun c257 => ?_)
  · have c257 : z2 = 0 := (i_eq0 (rb rz2 (by decide) (by decide))).mp c257
    exact mb_X12_goesOn_c272 l dC dI cB cI cJ cZ cQ q A hI0 hp0 hp1 hp2 hp3 hp4 hcCI p e s m below meth c Q AS hx hb hml hown hts hK hDD hA0 RET _ _ _ z1 z2 (by omega) (by omega) hz1 (fun zq uq hq => hk2 _ _ (u_d_X12_goesOn_2 (Or.inl ⟨c257, hq⟩))) hP hS (lv_sub hl [0, 1, 2, 3] rfl)
  · have c257 : ¬ z2 = 0 := mt (i_eq0 (rb rz2 (by decide) (by decide))).mpr c257
    refine lv_aload_n hx hb (dk_at dkX12_goesOn_5 8 rfl) rfl (lv_at hl 0 rfl) ?_
    refine va_get (D := (dC, dI)) (ci := 12) (v := .ref (q 36)) (C := RX12) (T := TX12) (N := 85) hx hb hts hiX12 hown hK hP 0 wm0 rfl 49 (by decide) (hts _ (List.mem_cons_of_mem _ wlq_1_47)) (fun _ h9 => h9) rfl (dk_at dkX12_goesOn_5 9 rfl) ?_
    refine lv_iload_n hx hb (dk_at dkX12_goesOn_5 10 rfl) rfl (lv_at hl 1 rfl) ?_
    refine x_iald hx hb hK hP 36 1 wm36 rfl (by omega) (by decide) (dk_at dkX12_goesOn_5 11 rfl) (fun z259 hz259 => ?_)
    have rz259 : (0 : Int) ≤ z259 ∧ z259 ≤ 2 := by rw [hz259]; exact hI 36 _
    have gz259 := Hd.mk hz259
    have hz259 : z259 = A 36 ((A 0 53) - 1).toNat := hz259
    refine lv_if_ne (tgt := 272) hx hb (dk_at dkX12_goesOn_5 12 rfl) (by decide) (fun c260 => ?_) (fun c260 => ?_)
    · have c260 : ¬ z259 = 0 := mt (i_eq0 (rb rz259 (by decide) (by decide))).mpr c260
      exact mb_X12_goesOn_c272 l dC dI cB cI cJ cZ cQ q A hI0 hp0 hp1 hp2 hp3 hp4 hcCI p e s m below meth c Q AS hx hb hml hown hts hK hDD hA0 RET _ _ _ z1 z2 (by omega) (by omega) hz1 (fun zq uq hq => hk2 _ _ (u_d_X12_goesOn_2 (Or.inr ⟨c257, ⟨z259, gz259.out, (Or.inl ⟨c260, hq⟩)⟩⟩))) hP hS (lv_sub hl [0, 1, 2, 3] rfl)
    · have c260 : z259 = 0 := (i_eq0 (rb rz259 (by decide) (by decide))).mp c260
      refine lv_aload_n hx hb (dk_at dkX12_goesOn_5 13 rfl) rfl (lv_at hl 0 rfl) ?_
      refine lv_bipush (v := iI 60) hx hb (dk_at dkX12_goesOn_5 14 rfl) (by decide +kernel) ?_
      have r_A_0_6 : (-2147483648 : Int) ≤ (A 0 6) ∧ (A 0 6) ≤ 2147483647 := hI 0 6
      refine x_calli (As := [.int (iI 60)]) (rest := []) ⟨hx, hb, hml, hown, hts⟩ (mb_X12_isSign l dC dI cB cI cJ cZ cQ q _ 60 hI ⟨by decide, by decide⟩) (cwV 1 hts (goodV wlq_0_37 wlq_0_38 wlq_0_39 wlq_0_8 wlq_0_34) rfl rfl rfl (by decide +kernel) ⟨Nat.le_of_ble_eq_true rfl, Nat.le_of_ble_eq_true rfl⟩) hK hDD hA0 hP hS 0 12 wm0 rfl rfl hl.1 (Nat.le_of_ble_eq_true rfl) (dk_at dkX12_goesOn_5 15 rfl) (fun z261 A262 H locs hw263 hP hS => ?_)
      obtain ⟨rfl, hw263⟩ := hw263
      have ghw263 : q_X12_isSign 60 A z261 := hw263
      have hw263 := hw263.2
      have rz261 : 0 ≤ z261 ∧ z261 ≤ 1 := hw263.1
      replace hw263 := Hd.mk hw263.2
      refine lv_if_ne (tgt := 215) hx hb (dk_at dkX12_goesOn_6 0 rfl) (by decide) (fun c264 => ?_) (fun c264 => ?_)
      · have c264 : ¬ z261 = 0 := mt (i_eq0 (rb rz261 (by decide) (by decide))).mpr c264
        have hw263b := hw263.out.mp (by omega)
        exact mb_X12_goesOn_c215 l dC dI cB cI cJ cZ cQ q A hI0 hp0 hp1 hp2 hp3 hp4 hcCI p e s m below meth c Q AS hx hb hml hown hts hK hDD hA0 RET _ _ _ z1 z2 (by omega) (by omega) hz1 (by omega) (by omega) (fun zq uq hq => hk2 _ _ (u_d_X12_goesOn_2 (Or.inr ⟨c257, ⟨z259, gz259.out, (Or.inr ⟨c260, ⟨z261, ghw263, (Or.inl ⟨c264, hq⟩)⟩⟩)⟩⟩))) hP hS (lv_sub hl [0, 1, 2, 3] rfl)
      · have c264 : z261 = 0 := (i_eq0 (rb rz261 (by decide) (by decide))).mp c264
        refine lv_aload_n hx hb (dk_at dkX12_goesOn_6 1 rfl) rfl (lv_at hl 0 rfl) ?_
        refine lv_bipush (v := iI 62) hx hb (dk_at dkX12_goesOn_6 2 rfl) (by decide +kernel) ?_
        refine x_calli (As := [.int (iI 62)]) (rest := []) ⟨hx, hb, hml, hown, hts⟩ (mb_X12_isSign l dC dI cB cI cJ cZ cQ q _ 62 hI ⟨by decide, by decide⟩) (cwV 1 hts (goodV wlq_0_37 wlq_0_38 wlq_0_39 wlq_0_8 wlq_0_34) rfl rfl rfl (by decide +kernel) ⟨Nat.le_of_ble_eq_true rfl, Nat.le_of_ble_eq_true rfl⟩) hK hDD hA0 hP hS 0 12 wm0 rfl rfl hl.1 (Nat.le_of_ble_eq_true rfl) (dk_at dkX12_goesOn_6 3 rfl) (fun z266 A267 H locs hw268 hP hS => ?_)
        obtain ⟨rfl, hw268⟩ := hw268
        have ghw268 : q_X12_isSign 62 A z266 := hw268
        have hw268 := hw268.2
        have rz266 : 0 ≤ z266 ∧ z266 ≤ 1 := hw268.1
        replace hw268 := Hd.mk hw268.2
        refine lv_if_ne (tgt := 215) hx hb (dk_at dkX12_goesOn_6 4 rfl) (by decide) (fun c269 => ?_) (fun c269 => ?_)
        · have c269 : ¬ z266 = 0 := mt (i_eq0 (rb rz266 (by decide) (by decide))).mpr c269
          have hw268b := hw268.out.mp (by omega)
          exact mb_X12_goesOn_c215 l dC dI cB cI cJ cZ cQ q A hI0 hp0 hp1 hp2 hp3 hp4 hcCI p e s m below meth c Q AS hx hb hml hown hts hK hDD hA0 RET _ _ _ z1 z2 (by omega) (by omega) hz1 (by omega) (by omega) (fun zq uq hq => hk2 _ _ (u_d_X12_goesOn_2 (Or.inr ⟨c257, ⟨z259, gz259.out, (Or.inr ⟨c260, ⟨z261, ghw263, (Or.inr ⟨c264, ⟨z266, ghw268, (Or.inl ⟨c269, hq⟩)⟩⟩)⟩⟩)⟩⟩))) hP hS (lv_sub hl [0, 1, 2, 3] rfl)
        · have c269 : z266 = 0 := (i_eq0 (rb rz266 (by decide) (by decide))).mp c269
          refine lv_aload_n hx hb (dk_at dkX12_goesOn_6 5 rfl) rfl (lv_at hl 0 rfl) ?_
          refine lv_bipush (v := iI 61) hx hb (dk_at dkX12_goesOn_6 6 rfl) (by decide +kernel) ?_
          refine x_calli (As := [.int (iI 61)]) (rest := []) ⟨hx, hb, hml, hown, hts⟩ (mb_X12_isSign l dC dI cB cI cJ cZ cQ q _ 61 hI ⟨by decide, by decide⟩) (cwV 1 hts (goodV wlq_0_37 wlq_0_38 wlq_0_39 wlq_0_8 wlq_0_34) rfl rfl rfl (by decide +kernel) ⟨Nat.le_of_ble_eq_true rfl, Nat.le_of_ble_eq_true rfl⟩) hK hDD hA0 hP hS 0 12 wm0 rfl rfl hl.1 (Nat.le_of_ble_eq_true rfl) (dk_at dkX12_goesOn_6 7 rfl) (fun z270 A271 H locs hw272 hP hS => ?_)
          obtain ⟨rfl, hw272⟩ := hw272
          have ghw272 : q_X12_isSign 61 A z270 := hw272
          have hw272 := hw272.2
          have rz270 : 0 ≤ z270 ∧ z270 ≤ 1 := hw272.1
          replace hw272 := Hd.mk hw272.2
          refine lv_if_eq (tgt := 272) hx hb (dk_at dkX12_goesOn_6 8 rfl) (by decide) (fun c273 => ?_) (fun c273 => ?_)
          · have c273 : z270 = 0 := (i_eq0 (rb rz270 (by decide) (by decide))).mp c273
            exact mb_X12_goesOn_c272 l dC dI cB cI cJ cZ cQ q A hI0 hp0 hp1 hp2 hp3 hp4 hcCI p e s m below meth c Q AS hx hb hml hown hts hK hDD hA0 RET _ _ _ z1 z2 (by omega) (by omega) hz1 (fun zq uq hq => hk2 _ _ (u_d_X12_goesOn_2 (Or.inr ⟨c257, ⟨z259, gz259.out, (Or.inr ⟨c260, ⟨z261, ghw263, (Or.inr ⟨c264, ⟨z266, ghw268, (Or.inr ⟨c269, ⟨z270, ghw272, (Or.inl ⟨c273, hq⟩)⟩⟩)⟩⟩)⟩⟩)⟩⟩))) hP hS (lv_sub hl [0, 1, 2, 3] rfl)
          · have c273 : ¬ z270 = 0 := mt (i_eq0 (rb rz270 (by decide) (by decide))).mpr c273
            have hw272b := hw272.out.mp (by omega)
            exact mb_X12_goesOn_c215 l dC dI cB cI cJ cZ cQ q A hI0 hp0 hp1 hp2 hp3 hp4 hcCI p e s m below meth c Q AS hx hb hml hown hts hK hDD hA0 RET _ _ _ z1 z2 (by omega) (by omega) hz1 (by omega) (by omega) (fun zq uq hq => hk2 _ _ (u_d_X12_goesOn_2 (Or.inr ⟨c257, ⟨z259, gz259.out, (Or.inr ⟨c260, ⟨z261, ghw263, (Or.inr ⟨c264, ⟨z266, ghw268, (Or.inr ⟨c269, ⟨z270, ghw272, (Or.inr ⟨c273, hq⟩)⟩⟩)⟩⟩)⟩⟩)⟩⟩))) hP hS (lv_sub hl [0, 1, 2, 3] rfl)
set_option maxHeartbeats 4000000 in
set_option maxRecDepth 100000 in
theorem mb_X12_goesOn (l : Launch) (dC : Nat → ClassId) (dI : Nat → Nat → Nat) (cB cI cJ cZ cQ : ClassId) (q : Nat → Nat) (A : St) (hI : IM A) (hp0 : RI 1 A) (hp1 : A 0 8 = 0) (hp2 : PR A) (hp3 : A 0 57 = 1) (hp4 : SP A) (hcCI : CI A) : XMi l yX12_goesOn ws_mb_X12_goesOn ({ frames := 2, cells := 0, slots := 0, locals := 47 } : Room) (dC, dI) (tyA cB cI cJ cZ cQ) (WM cI cJ cZ q) A [.ref (q 0)] (fun z u => r_X12_goesOn A z u ∧ IM u ∧ fr [33, 34, 35, 36, 37, 40] [3, 4, 5, 6, 7, 8, 9, 46, 53, 54, 56, 57] A u ∧ CI u ∧ ((0 ≤ z ∧ z ≤ 1) ∧ (Hd (u 0 8 = 0 → (z = 1 → RI (u 0 57) u ∧ (PR u ∧ SP u) ∧ A 0 4 + 1 ≤ u 0 4) ∧ (z = 0 → DP (u 33) (sA u) (1600 * u 0 47 + u 0 46) 1 ∧ CB u ∧ A 0 4 ≤ u 0 4))))) := by
  refine x_metz (cc := cX12_goesOn) (maxL := 5) WM_adr (by decide +kernel) rfl (Nat.le_of_ble_eq_true rfl) (fun z u h => h.2.2.2.2.1) (fun p e s m below meth c Q AS ls hx hb hml hown hts hK hDD hA0 hP hS hl RET => ?_)
  have hown : s.vm.findClass RX12 = some m.cls := hown
  have hl : lv_has ls 5 [(0, .ref (q 0))] := hl
  have hiX12 : ∀ w ∈ u_ws RX12 TX12 85, w ∈ ws_mb_X12_goesOn := fun w h => List.mem_cons_of_mem _ (wx_lay w h)
  obtain ⟨H, hHe⟩ : ∃ H : Heap, H = s.heap := ⟨_, rfl⟩
  rw [← hHe] at hP
  have hS : va_S AS s.heap H [] := by rw [hHe]; exact hS
  suffices hgo : ∀ locs : List Loc, va_S AS s.heap H locs → W p l e (headSpec ws_mb_X12_goesOn ({ frames := 2, cells := 0, slots := 0, locals := 47 } : Room)).room s m [.ref (q 0)].toArray below meth c H locs 0 0 Q (F0 m 0 ls []) by
    have := hgo [] hS
    rw [hHe] at this
    exact this
  clear hS hHe
  intro locs hS
  have hI0 := hI
  have hdp := RI.deep hp0 hI0
  have hrm := RI.room hp0 hI0
  have r_A_0_3 : (0 : Int) ≤ (A 0 3) ∧ (A 0 3) ≤ 3 := hI 0 3
  have r_A_0_4 : (0 : Int) ≤ (A 0 4) ∧ (A 0 4) ≤ 1600 := hI 0 4
  have r_A_0_5 : (0 : Int) ≤ (A 0 5) ∧ (A 0 5) ≤ 1600 := hI 0 5
  have r_A_0_7 : (-9223372036854775808 : Int) ≤ (A 0 7) ∧ (A 0 7) ≤ 9223372036854775807 := hI 0 7
  have r_A_0_8 : (0 : Int) ≤ (A 0 8) ∧ (A 0 8) ≤ 5 := hI 0 8
  have r_A_0_46 : (0 : Int) ≤ (A 0 46) ∧ (A 0 46) ≤ 1600 := hI 0 46
  have r_A_0_47 : (0 : Int) ≤ (A 0 47) ∧ (A 0 47) ≤ 1 := hI 0 47
  have r_A_0_53 : (0 : Int) ≤ (A 0 53) ∧ (A 0 53) ≤ 20 := hI 0 53
  have r_A_0_54 : (0 : Int) ≤ (A 0 54) ∧ (A 0 54) ≤ 8 := hI 0 54
  have r_A_0_56 : (0 : Int) ≤ (A 0 56) ∧ (A 0 56) ≤ 500 := hI 0 56
  have hop := hp0.1
  refine lv_aload_n hx hb (dk_at dkX12_goesOn_0 0 rfl) rfl (lv_at hl 0 rfl) ?_
  refine va_get (D := (dC, dI)) (ci := 12) (v := .int (iI (A 0 53))) (C := RX12) (T := TX12) (N := 85) hx hb hts hiX12 hown hK hP 0 wm0 rfl 53 (by decide) (hts _ (List.mem_cons_of_mem _ wlq_1_37)) (fun _ h9 => h9) rfl (dk_at dkX12_goesOn_0 1 rfl) ?_
  refine lv_iconst (v := iI 1) hx hb (dk_at dkX12_goesOn_0 2 rfl) (by decide +kernel) ?_
  refine x_subv (v := (A 0 53) - 1) hx hb (dk_at dkX12_goesOn_0 3 rfl) (by omega) ?_
  refine lv_istore_n (lv' := [(1, .int (iI ((A 0 53) - 1))), (0, .ref (q 0))]) hx hb (dk_at dkX12_goesOn_0 4 rfl) rfl hl (by decide) rfl (fun ls hl => ?_)
  refine lv_aload_n hx hb (dk_at dkX12_goesOn_0 5 rfl) rfl (lv_at hl 1 rfl) ?_
  refine va_get (D := (dC, dI)) (ci := 12) (v := .ref (q 35)) (C := RX12) (T := TX12) (N := 85) hx hb hts hiX12 hown hK hP 0 wm0 rfl 48 (by decide) (hts _ (List.mem_cons_of_mem _ wlq_1_46)) (fun _ h9 => h9) rfl (dk_at dkX12_goesOn_0 6 rfl) ?_
  refine lv_iload_n hx hb (dk_at dkX12_goesOn_0 7 rfl) rfl (lv_at hl 0 rfl) ?_
  refine x_iald hx hb hK hP 35 1 wm35 rfl (by omega) (by decide) (dk_at dkX12_goesOn_0 8 rfl) (fun z1 hz1 => ?_)
  have rz1 : (0 : Int) ≤ z1 ∧ z1 ≤ 5 := by rw [hz1]; exact hI 35 _
  have gz1 := Hd.mk hz1
  have hz1 : z1 = A 35 ((A 0 53) - 1).toNat := hz1
  refine lv_istore_n (lv' := [(2, .int (iI z1)), (1, .int (iI ((A 0 53) - 1))), (0, .ref (q 0))]) hx hb (dk_at dkX12_goesOn_0 9 rfl) rfl hl (by decide) rfl (fun ls hl => ?_)
  refine lv_iload_n hx hb (dk_at dkX12_goesOn_0 10 rfl) rfl (lv_at hl 0 rfl) ?_
  refine x_callSi (As := [.int (iI z1)]) (rest := []) ⟨hx, hb, hml, hown, hts⟩ (mc_X12_isTest l dC dI cB cI cJ cZ cQ q _ z1 hI (rb rz1 (by decide) (by decide))) (va_cwS 1 hts (goodS wlq_1_57 wlq_1_58 wlq_0_8 wlq_1_54) rfl rfl rfl (by decide +kernel) ⟨Nat.le_of_ble_eq_true rfl, Nat.le_of_ble_eq_true rfl⟩) hK hDD hA0 hP hS rfl hl.1 (Nat.le_of_ble_eq_true rfl) (dk_at dkX12_goesOn_0 11 rfl) (fun z2 A3 H locs hw4 hP hS => ?_)
  obtain ⟨rfl, hw4⟩ := hw4
  have ghw4 : q_X12_isTest z1 A z2 := hw4
  have hw4 := hw4.2
  refine lv_istore_n (lv' := [(3, .int (iI z2)), (2, .int (iI z1)), (1, .int (iI ((A 0 53) - 1))), (0, .ref (q 0))]) hx hb (dk_at dkX12_goesOn_0 12 rfl) rfl hl (by decide) rfl (fun ls hl => ?_)
  refine lv_aload_n hx hb (dk_at dkX12_goesOn_0 13 rfl) rfl (lv_at hl 3 rfl) ?_
  refine va_get (D := (dC, dI)) (ci := 12) (v := .ref (q 36)) (C := RX12) (T := TX12) (N := 85) hx hb hts hiX12 hown hK hP 0 wm0 rfl 49 (by decide) (hts _ (List.mem_cons_of_mem _ wlq_1_47)) (fun _ h9 => h9) rfl (dk_at dkX12_goesOn_0 14 rfl) ?_
  refine lv_iload_n hx hb (dk_at dkX12_goesOn_0 15 rfl) rfl (lv_at hl 2 rfl) ?_
  refine x_iald hx hb hK hP 36 1 wm36 rfl (by omega) (by decide) (dk_at dkX12_goesOn_1 0 rfl) (fun z5 hz5 => ?_)
  have rz5 : (0 : Int) ≤ z5 ∧ z5 ≤ 2 := by rw [hz5]; exact hI 36 _
  have gz5 := Hd.mk hz5
  have hz5 : z5 = A 36 ((A 0 53) - 1).toNat := hz5
  refine lv_iconst (v := iI 2) hx hb (dk_at dkX12_goesOn_1 1 rfl) (by decide +kernel) ?_
  refine lv_icmp_ge (tgt := 175) hx hb (dk_at dkX12_goesOn_1 2 rfl) (by decide) (fun c6 => ?_) (fun c6 => ?_)
  · have c6 : 2 ≤ z5 := (i_le ⟨by decide, by decide⟩ (rb rz5 (by decide) (by decide))).mp c6
    exact mb_X12_goesOn_c175 l dC dI cB cI cJ cZ cQ q A hI0 hp0 hp1 hp2 hp3 hp4 hcCI p e s m below meth c Q AS hx hb hml hown hts hK hDD hA0 RET _ _ _ z1 z2 (by omega) (by omega) hz1 (fun zq uq hq => (u_r_X12_goesOn ⟨z1, gz1.out, ⟨z2, ghw4, ⟨z5, gz5.out, (Or.inl ⟨c6, hq⟩)⟩⟩⟩)) hP hS (lv_sub hl [3, 2, 1, 0] rfl)
  · have c6 : ¬ 2 ≤ z5 := mt (i_le ⟨by decide, by decide⟩ (rb rz5 (by decide) (by decide))).mpr c6
    refine lv_aload_n hx hb (dk_at dkX12_goesOn_1 3 rfl) rfl (lv_at hl 3 rfl) ?_
    refine lv_bipush (v := iI 43) hx hb (dk_at dkX12_goesOn_1 4 rfl) (by decide +kernel) ?_
    have r_A_0_6 : (-2147483648 : Int) ≤ (A 0 6) ∧ (A 0 6) ≤ 2147483647 := hI 0 6
    refine x_calli (As := [.int (iI 43)]) (rest := []) ⟨hx, hb, hml, hown, hts⟩ (mb_X12_isSign l dC dI cB cI cJ cZ cQ q _ 43 hI ⟨by decide, by decide⟩) (cwV 1 hts (goodV wlq_0_37 wlq_0_38 wlq_0_39 wlq_0_8 wlq_0_34) rfl rfl rfl (by decide +kernel) ⟨Nat.le_of_ble_eq_true rfl, Nat.le_of_ble_eq_true rfl⟩) hK hDD hA0 hP hS 0 12 wm0 rfl rfl hl.1 (Nat.le_of_ble_eq_true rfl) (dk_at dkX12_goesOn_1 5 rfl) (fun z8 A9 H locs hw10 hP hS => ?_)
    obtain ⟨rfl, hw10⟩ := hw10
    have ghw10 : q_X12_isSign 43 A z8 := hw10
    have hw10 := hw10.2
    have rz8 : 0 ≤ z8 ∧ z8 ≤ 1 := hw10.1
    replace hw10 := Hd.mk hw10.2
    refine lv_if_ne (tgt := 74) hx hb (dk_at dkX12_goesOn_1 6 rfl) (by decide) (fun c11 => ?_) (fun c11 => ?_)
    · have c11 : ¬ z8 = 0 := mt (i_eq0 (rb rz8 (by decide) (by decide))).mpr c11
      have hw10b := hw10.out.mp (by omega)
      exact mb_X12_goesOn_c74 l dC dI cB cI cJ cZ cQ q A hI0 hp0 hp1 hp2 hp3 hp4 hcCI p e s m below meth c Q AS hx hb hml hown hts hK hDD hA0 RET _ _ _ z1 z2 (by omega) (by omega) hz1 (by omega) (fun zq uq hq => (u_r_X12_goesOn ⟨z1, gz1.out, ⟨z2, ghw4, ⟨z5, gz5.out, (Or.inr ⟨c6, ⟨z8, ghw10, (Or.inl ⟨c11, hq⟩)⟩⟩)⟩⟩⟩)) hP hS (lv_sub hl [3, 2, 1, 0] rfl)
    · have c11 : z8 = 0 := (i_eq0 (rb rz8 (by decide) (by decide))).mp c11
      refine lv_aload_n hx hb (dk_at dkX12_goesOn_1 7 rfl) rfl (lv_at hl 3 rfl) ?_
      refine lv_bipush (v := iI 45) hx hb (dk_at dkX12_goesOn_1 8 rfl) (by decide +kernel) ?_
      refine x_calli (As := [.int (iI 45)]) (rest := []) ⟨hx, hb, hml, hown, hts⟩ (mb_X12_isSign l dC dI cB cI cJ cZ cQ q _ 45 hI ⟨by decide, by decide⟩) (cwV 1 hts (goodV wlq_0_37 wlq_0_38 wlq_0_39 wlq_0_8 wlq_0_34) rfl rfl rfl (by decide +kernel) ⟨Nat.le_of_ble_eq_true rfl, Nat.le_of_ble_eq_true rfl⟩) hK hDD hA0 hP hS 0 12 wm0 rfl rfl hl.1 (Nat.le_of_ble_eq_true rfl) (dk_at dkX12_goesOn_1 9 rfl) (fun z13 A14 H locs hw15 hP hS => ?_)
      obtain ⟨rfl, hw15⟩ := hw15
      have ghw15 : q_X12_isSign 45 A z13 := hw15
      have hw15 := hw15.2
      have rz13 : 0 ≤ z13 ∧ z13 ≤ 1 := hw15.1
      replace hw15 := Hd.mk hw15.2
      refine lv_if_ne (tgt := 74) hx hb (dk_at dkX12_goesOn_1 10 rfl) (by decide) (fun c16 => ?_) (fun c16 => ?_)
      · have c16 : ¬ z13 = 0 := mt (i_eq0 (rb rz13 (by decide) (by decide))).mpr c16
        have hw15b := hw15.out.mp (by omega)
        exact mb_X12_goesOn_c74 l dC dI cB cI cJ cZ cQ q A hI0 hp0 hp1 hp2 hp3 hp4 hcCI p e s m below meth c Q AS hx hb hml hown hts hK hDD hA0 RET _ _ _ z1 z2 (by omega) (by omega) hz1 (by omega) (fun zq uq hq => (u_r_X12_goesOn ⟨z1, gz1.out, ⟨z2, ghw4, ⟨z5, gz5.out, (Or.inr ⟨c6, ⟨z8, ghw10, (Or.inr ⟨c11, ⟨z13, ghw15, (Or.inl ⟨c16, hq⟩)⟩⟩)⟩⟩)⟩⟩⟩)) hP hS (lv_sub hl [3, 2, 1, 0] rfl)
      · have c16 : z13 = 0 := (i_eq0 (rb rz13 (by decide) (by decide))).mp c16
        refine lv_aload_n hx hb (dk_at dkX12_goesOn_1 11 rfl) rfl (lv_at hl 3 rfl) ?_
        refine lv_bipush (v := iI 42) hx hb (dk_at dkX12_goesOn_1 12 rfl) (by decide +kernel) ?_
        refine x_calli (As := [.int (iI 42)]) (rest := []) ⟨hx, hb, hml, hown, hts⟩ (mb_X12_isSign l dC dI cB cI cJ cZ cQ q _ 42 hI ⟨by decide, by decide⟩) (cwV 1 hts (goodV wlq_0_37 wlq_0_38 wlq_0_39 wlq_0_8 wlq_0_34) rfl rfl rfl (by decide +kernel) ⟨Nat.le_of_ble_eq_true rfl, Nat.le_of_ble_eq_true rfl⟩) hK hDD hA0 hP hS 0 12 wm0 rfl rfl hl.1 (Nat.le_of_ble_eq_true rfl) (dk_at dkX12_goesOn_1 13 rfl) (fun z17 A18 H locs hw19 hP hS => ?_)
        obtain ⟨rfl, hw19⟩ := hw19
        have ghw19 : q_X12_isSign 42 A z17 := hw19
        have hw19 := hw19.2
        have rz17 : 0 ≤ z17 ∧ z17 ≤ 1 := hw19.1
        replace hw19 := Hd.mk hw19.2
        refine lv_if_ne (tgt := 74) hx hb (dk_at dkX12_goesOn_1 14 rfl) (by decide) (fun c20 => ?_) (fun c20 => ?_)
        · have c20 : ¬ z17 = 0 := mt (i_eq0 (rb rz17 (by decide) (by decide))).mpr c20
          have hw19b := hw19.out.mp (by omega)
          exact mb_X12_goesOn_c74 l dC dI cB cI cJ cZ cQ q A hI0 hp0 hp1 hp2 hp3 hp4 hcCI p e s m below meth c Q AS hx hb hml hown hts hK hDD hA0 RET _ _ _ z1 z2 (by omega) (by omega) hz1 (by omega) (fun zq uq hq => (u_r_X12_goesOn ⟨z1, gz1.out, ⟨z2, ghw4, ⟨z5, gz5.out, (Or.inr ⟨c6, ⟨z8, ghw10, (Or.inr ⟨c11, ⟨z13, ghw15, (Or.inr ⟨c16, ⟨z17, ghw19, (Or.inl ⟨c20, hq⟩)⟩⟩)⟩⟩)⟩⟩)⟩⟩⟩)) hP hS (lv_sub hl [3, 2, 1, 0] rfl)
        · have c20 : z17 = 0 := (i_eq0 (rb rz17 (by decide) (by decide))).mp c20
          refine lv_aload_n hx hb (dk_at dkX12_goesOn_1 15 rfl) rfl (lv_at hl 3 rfl) ?_
          refine lv_bipush (v := iI 47) hx hb (dk_at dkX12_goesOn_2 0 rfl) (by decide +kernel) ?_
          refine x_calli (As := [.int (iI 47)]) (rest := []) ⟨hx, hb, hml, hown, hts⟩ (mb_X12_isSign l dC dI cB cI cJ cZ cQ q _ 47 hI ⟨by decide, by decide⟩) (cwV 1 hts (goodV wlq_0_37 wlq_0_38 wlq_0_39 wlq_0_8 wlq_0_34) rfl rfl rfl (by decide +kernel) ⟨Nat.le_of_ble_eq_true rfl, Nat.le_of_ble_eq_true rfl⟩) hK hDD hA0 hP hS 0 12 wm0 rfl rfl hl.1 (Nat.le_of_ble_eq_true rfl) (dk_at dkX12_goesOn_2 1 rfl) (fun z21 A22 H locs hw23 hP hS => ?_)
          obtain ⟨rfl, hw23⟩ := hw23
          have ghw23 : q_X12_isSign 47 A z21 := hw23
          have hw23 := hw23.2
          have rz21 : 0 ≤ z21 ∧ z21 ≤ 1 := hw23.1
          replace hw23 := Hd.mk hw23.2
          refine lv_if_ne (tgt := 74) hx hb (dk_at dkX12_goesOn_2 2 rfl) (by decide) (fun c24 => ?_) (fun c24 => ?_)
          · have c24 : ¬ z21 = 0 := mt (i_eq0 (rb rz21 (by decide) (by decide))).mpr c24
            have hw23b := hw23.out.mp (by omega)
            exact mb_X12_goesOn_c74 l dC dI cB cI cJ cZ cQ q A hI0 hp0 hp1 hp2 hp3 hp4 hcCI p e s m below meth c Q AS hx hb hml hown hts hK hDD hA0 RET _ _ _ z1 z2 (by omega) (by omega) hz1 (by omega) (fun zq uq hq => (u_r_X12_goesOn ⟨z1, gz1.out, ⟨z2, ghw4, ⟨z5, gz5.out, (Or.inr ⟨c6, ⟨z8, ghw10, (Or.inr ⟨c11, ⟨z13, ghw15, (Or.inr ⟨c16, ⟨z17, ghw19, (Or.inr ⟨c20, ⟨z21, ghw23, (Or.inl ⟨c24, hq⟩)⟩⟩)⟩⟩)⟩⟩)⟩⟩)⟩⟩⟩)) hP hS (lv_sub hl [3, 2, 1, 0] rfl)
          · have c24 : z21 = 0 := (i_eq0 (rb rz21 (by decide) (by decide))).mp c24
            refine lv_aload_n hx hb (dk_at dkX12_goesOn_2 3 rfl) rfl (lv_at hl 3 rfl) ?_
            refine lv_bipush (v := iI 37) hx hb (dk_at dkX12_goesOn_2 4 rfl) (by decide +kernel) ?_
            refine x_calli (As := [.int (iI 37)]) (rest := []) ⟨hx, hb, hml, hown, hts⟩ (mb_X12_isSign l dC dI cB cI cJ cZ cQ q _ 37 hI ⟨by decide, by decide⟩) (cwV 1 hts (goodV wlq_0_37 wlq_0_38 wlq_0_39 wlq_0_8 wlq_0_34) rfl rfl rfl (by decide +kernel) ⟨Nat.le_of_ble_eq_true rfl, Nat.le_of_ble_eq_true rfl⟩) hK hDD hA0 hP hS 0 12 wm0 rfl rfl hl.1 (Nat.le_of_ble_eq_true rfl) (dk_at dkX12_goesOn_2 5 rfl) (fun z25 A26 H locs hw27 hP hS => ?_)
            obtain ⟨rfl, hw27⟩ := hw27
            have ghw27 : q_X12_isSign 37 A z25 := hw27
            have hw27 := hw27.2
            have rz25 : 0 ≤ z25 ∧ z25 ≤ 1 := hw27.1
            replace hw27 := Hd.mk hw27.2
            refine lv_if_eq (tgt := 175) hx hb (dk_at dkX12_goesOn_2 6 rfl) (by decide) (fun c28 => ?_) (fun c28 => ?_)
            · have c28 : z25 = 0 := (i_eq0 (rb rz25 (by decide) (by decide))).mp c28
              exact mb_X12_goesOn_c175 l dC dI cB cI cJ cZ cQ q A hI0 hp0 hp1 hp2 hp3 hp4 hcCI p e s m below meth c Q AS hx hb hml hown hts hK hDD hA0 RET _ _ _ z1 z2 (by omega) (by omega) hz1 (fun zq uq hq => (u_r_X12_goesOn ⟨z1, gz1.out, ⟨z2, ghw4, ⟨z5, gz5.out, (Or.inr ⟨c6, ⟨z8, ghw10, (Or.inr ⟨c11, ⟨z13, ghw15, (Or.inr ⟨c16, ⟨z17, ghw19, (Or.inr ⟨c20, ⟨z21, ghw23, (Or.inr ⟨c24, ⟨z25, ghw27, (Or.inl ⟨c28, hq⟩)⟩⟩)⟩⟩)⟩⟩)⟩⟩)⟩⟩)⟩⟩⟩)) hP hS (lv_sub hl [3, 2, 1, 0] rfl)
            · have c28 : ¬ z25 = 0 := mt (i_eq0 (rb rz25 (by decide) (by decide))).mpr c28
              have hw27b := hw27.out.mp (by omega)
              exact mb_X12_goesOn_c74 l dC dI cB cI cJ cZ cQ q A hI0 hp0 hp1 hp2 hp3 hp4 hcCI p e s m below meth c Q AS hx hb hml hown hts hK hDD hA0 RET _ _ _ z1 z2 (by omega) (by omega) hz1 (by omega) (fun zq uq hq => (u_r_X12_goesOn ⟨z1, gz1.out, ⟨z2, ghw4, ⟨z5, gz5.out, (Or.inr ⟨c6, ⟨z8, ghw10, (Or.inr ⟨c11, ⟨z13, ghw15, (Or.inr ⟨c16, ⟨z17, ghw19, (Or.inr ⟨c20, ⟨z21, ghw23, (Or.inr ⟨c24, ⟨z25, ghw27, (Or.inr ⟨c28, hq⟩)⟩⟩)⟩⟩)⟩⟩)⟩⟩)⟩⟩)⟩⟩⟩)) hP hS (lv_sub hl [3, 2, 1, 0] rfl)
theorem PR.one {V : St} (h53 : V 0 53 = 1) (h : V 35 0 ≤ 1) : PR V := by
  intro i hi hk
  have : i = 0 := by omega
  subst this
  omega
theorem SP.one {V : St} (h53 : V 0 53 = 1) (h56 : V 0 56 = 0) : SP V := by
  unfold SP
  rw [h53, h56]
  exact ⟨fun i hi => by omega, fun j a b => absurd b (by simp), fun p j a b => absurd b (by simp)⟩
theorem DP.wfc {c : Nat → Int} {s e : Int} (h : DP c s e 1) : wfc c s.toNat (e - s).toNat := ⟨by rw [h.2.1]; exact Int.le_refl 1, h.2.2⟩
/-- a place behind the bars that are told -/
theorem bar_ne {A : St} (hI : IM A) {b i : Nat} (hb : b < 2) (hi : (i : Int) < A 29 b) (h5 : A 29 (A 0 47).toNat ≤ 5) : 6 * b + i ≠ (6 * A 0 47 + A 29 (A 0 47).toNat).toNat := by
  have r1 : (0 : Int) ≤ A 0 47 := (hI 0 47).1
  have r2 : A 0 47 ≤ 1 := (hI 0 47).2
  have r3 : (0 : Int) ≤ A 29 (A 0 47).toNat := (hI 29 _).1
  have r4 : A 29 b ≤ 6 := (hI 29 _).2
  by_cases e : (b : Int) = A 0 47
  · have e2 : (A 0 47).toNat = b := by omega
    rw [e2] at r3 h5 ⊢
    omega
  · omega
theorem CI.s31 {A B : St} {v : Int} (h : CI A) (hI : IM A) (h5 : A 29 (A 0 47).toNat ≤ 5) (e29 : B 29 = A 29) (e31 : B 31 = up (A 31) (6 * A 0 47 + A 29 (A 0 47).toNat).toNat v) (e32 : B 32 = A 32) (e33 : B 33 = A 33) (e46 : B 0 46 = A 0 46) (e47 : B 0 47 = A 0 47) : CI B := by
  unfold CI
  rw [e29, e31, e32, e33, e46, e47]
  intro b i hb hi
  rw [up_ne _ _ (bar_ne hI hb hi h5)]
  exact h b i hb hi
theorem CI.s32 {A B : St} {v : Int} (h : CI A) (hI : IM A) (h5 : A 29 (A 0 47).toNat ≤ 5) (e29 : B 29 = A 29) (e31 : B 31 = A 31) (e32 : B 32 = up (A 32) (6 * A 0 47 + A 29 (A 0 47).toNat).toNat v) (e33 : B 33 = A 33) (e46 : B 0 46 = A 0 46) (e47 : B 0 47 = A 0 47) : CI B := by
  unfold CI
  rw [e29, e31, e32, e33, e46, e47]
  intro b i hb hi
  rw [up_ne _ _ (bar_ne hI hb hi h5)]
  exact h b i hb hi
theorem CI.inc {A B : St} (h : CI A) (hI : IM A) (e29 : B 29 = up (A 29) (A 0 47).toNat (A 29 (A 0 47).toNat + 1)) (e31 : B 31 = A 31) (e32 : B 32 = A 32) (e33 : B 33 = A 33) (e46 : B 0 46 = A 0 46) (e47 : B 0 47 = A 0 47) (ht : A 32 (6 * A 0 47 + A 29 (A 0 47).toNat).toNat = A 0 46) (hd : DP (A 33) (sA A) (1600 * A 0 47 + A 0 46) 1) : CI B := by
  unfold CI
  rw [e29, e31, e32, e33, e46, e47]
  intro b i hb hi
  have r1 : (0 : Int) ≤ A 0 47 := (hI 0 47).1
  have r3 : (0 : Int) ≤ A 29 (A 0 47).toNat := (hI 29 _).1
  by_cases e : b = (A 0 47).toNat
  · subst e
    rw [up_same] at hi
    by_cases e2 : (i : Int) < A 29 (A 0 47).toNat
    · exact h _ i hb e2
    · have ei : 6 * (A 0 47).toNat + i = (6 * A 0 47 + A 29 (A 0 47).toNat).toNat := by omega
      rw [ei, ht]
      have hle := hd.1
      have hw := DP.wfc hd
      have r4 : (0 : Int) ≤ A 31 (6 * A 0 47 + A 29 (A 0 47).toNat).toNat := (hI 31 _).1
      unfold sA at hle hw
      have e5 : (1600 * A 0 47 + A 31 (6 * A 0 47 + A 29 (A 0 47).toNat).toNat).toNat = 1600 * (A 0 47).toNat + (A 31 (6 * A 0 47 + A 29 (A 0 47).toNat).toNat).toNat := by omega
      have e6 : (1600 * A 0 47 + A 0 46 - (1600 * A 0 47 + A 31 (6 * A 0 47 + A 29 (A 0 47).toNat).toNat)).toNat = (A 0 46 - A 31 (6 * A 0 47 + A 29 (A 0 47).toNat).toNat).toNat := by omega
      rw [e5, e6] at hw
      exact ⟨by omega, fun _ => Int.le_refl _, hw⟩
  · rw [up_ne _ _ e] at hi
    exact h b i hb hi
theorem CI.zero {A B : St} {n : Int} (h : CI A) (hn : 0 ≤ n ∧ n ≤ 1) (e29 : B 29 = up (A 29) n.toNat 0) (e31 : B 31 = A 31) (e32 : B 32 = A 32) (e33 : B 33 = A 33) (e47 : B 0 47 = n) : CI B := by
  unfold CI
  rw [e29, e31, e32, e33, e47]
  intro b i hb hi
  by_cases e : b = n.toNat
  · subst e
    rw [up_same] at hi
    omega
  · rw [up_ne _ _ e] at hi
    have := h b i hb hi
    exact ⟨this.1, fun e2 => absurd e2 (by omega), this.2.2⟩
theorem WI.zero {A B : St} {n : Int} (h : WI A) (hn : 0 ≤ n ∧ n ≤ 1) (e22 : B 22 = up (A 22) n.toNat 0) (e23 : B 23 = A 23) : WI B := by
  intro p
  rw [e22, e23]
  rcases (show n = 0 ∨ n = 1 by omega) with rfl | rfl
  · refine ⟨?_, ?_⟩
    · show ct (A 23) 0 p (up (A 22) 0 0 0).toNat ≤ 2
      rw [up_same]
      show (0 : Int) ≤ 2
      decide
    · show ct (A 23) 6 p (up (A 22) 0 0 1).toNat ≤ 2
      rw [up_ne _ _ (by decide)]
      exact (h p).2
  · refine ⟨?_, ?_⟩
    · show ct (A 23) 0 p (up (A 22) 1 0 0).toNat ≤ 2
      rw [up_ne _ _ (by decide)]
      exact (h p).1
    · show ct (A 23) 6 p (up (A 22) 1 0 1).toNat ≤ 2
      rw [up_same]
      show (0 : Int) ≤ 2
      decide
theorem DPt {A B : St} (e29 : B 29 = A 29) (e31 : B 31 = A 31) (e33 : B 33 = A 33) (e46 : B 0 46 = A 0 46) (e47 : B 0 47 = A 0 47) (h : DP (A 33) (sA A) (1600 * A 0 47 + A 0 46) 1) : DP (B 33) (sA B) (1600 * B 0 47 + B 0 46) 1 := by
  unfold sA
  rw [e29, e31, e33, e46, e47]
  exact h
theorem dkX12_reads_0 : dkq cX12_reads [(0, .aload_n 0, 1), (1, .getfield 36, 3), (4, .ifCond .le 4, 3), (7, .return_, 1), (8, .aload_n 0, 1), (9, .iconst 0, 1), (10, .putfield 173, 3), (13, .aload_n 0, 1), (14, .iconst 0, 1), (15, .putfield 176, 3), (18, .aload_n 0, 1), (19, .iconst 0, 1), (20, .putfield 182, 3), (23, .aload_n 0, 1), (24, .iconst 0, 1), (25, .putfield 185, 3)] = true := by decide +kernel
theorem dkX12_reads_1 : dkq cX12_reads [(28, .aload_n 0, 1), (29, .iload_n 1, 1), (30, .ifCond .eq 7, 3), (33, .iconst 1, 1), (34, .goto 4, 3), (37, .iconst 0, 1), (38, .invokevirtual 362, 3), (41, .iconst 1, 1), (42, .istore_n 2, 1), (43, .iload_n 2, 1), (44, .ifCond .eq 46, 3), (47, .aload_n 0, 1), (48, .getfield 185, 3), (51, .ifCond .ne 14, 3), (54, .aload_n 0, 1), (55, .aload_n 0, 1)] = true := by decide +kernel
theorem dkX12_reads_2 : dkq cX12_reads [(56, .invokevirtual 381, 3), (59, .putfield 185, 3), (62, .goto 8, 3), (65, .aload_n 0, 1), (66, .invokevirtual 384, 3), (69, .istore_n 2, 1), (70, .iload_n 2, 1), (71, .ifCond .eq 14, 3), (74, .aload_n 0, 1), (75, .getfield 36, 3), (78, .ifCond .ne 7, 3), (81, .iconst 1, 1), (82, .goto 4, 3), (85, .iconst 0, 1), (86, .istore_n 2, 1), (87, .goto (-44), 3)] = true := by decide +kernel
theorem dkX12_reads_3 : dkq cX12_reads [(90, .return_, 1)] = true := by decide +kernel
