/-- the array class over an array class, as the tables have it -/
def va_AOA (t : FieldType) (U : State) : Prop := (Cond.arrayOver (.array t)).before #[] U = true
theorem va_AOA.use {t : FieldType} {A : Array Value} {U : State} (h : va_AOA t U) : (Cond.arrayOver (.array t)).before A U = true := h
theorem va_AOA.of {t : FieldType} {A : Array Value} {U : State} (h : (Cond.arrayOver (.array t)).before A U = true) : va_AOA t U := h
/-! ===== BEGIN words of one list among another's, by their places ===== -/
theorem goodIn_r {big : List Cond} (ws : List Cond) (ps : List Nat) (hp : ws = ps.filterMap (fun i => big[i]?)) (h : ws.all goodWord = true) : GoodIn big ws := by
  intro w hw
  have h1 := List.all_eq_true.mp h w hw
  rw [hp] at hw
  obtain ⟨i, -, hi⟩ := List.mem_filterMap.mp hw
  have hm : w ∈ big := by first | exact List.mem_of_getElem? hi | exact List.getElem?_mem hi
  exact ⟨hm, good_of_word h1⟩
theorem goodIn_sub {big ws : List Cond} (hm : ∀ w ∈ ws, w ∈ big) (h : ws.all goodWord = true) : GoodIn big ws := fun w hw => ⟨hm w hw, good_of_word (List.all_eq_true.mp h w hw)⟩
/-! ===== END ===== -/

/-! ===== BEGIN new T[n][m]: the outer array a place, the inner ones among the pooled ===== -/
/-- f, but v at every address of l -/
def vr_up {α : Type} (f : Nat → α) (l : List Nat) (v : α) : Nat → α := fun a => if a ∈ l then v else f a
theorem vr_up_in {α : Type} {f : Nat → α} {l : List Nat} {v : α} {a : Nat} (h : a ∈ l) : vr_up f l v a = v := if_pos h
theorem vr_up_ne {α : Type} {f : Nat → α} {l : List Nat} {v : α} {a : Nat} (h : a ∉ l) : vr_up f l v a = f a := if_neg h
theorem vr_rows {L l : List Nat} {f : Nat → va_E} {e : va_E} (h : ∀ a, a ∈ l → a ∉ L) : va_pl L f ++ l.map (fun a => (a, e)) = va_pl (L ++ l) (vr_up f l e) := by
  unfold va_pl
  rw [List.map_append]
  congr 1
  · apply List.map_congr_left
    intro a ha
    rw [vr_up_ne (fun q => h a q ha)]
  · apply List.map_congr_left
    intro a ha
    rw [vr_up_in ha]
theorem vr_lay {X rows : va_W} {x : Nat × va_E} {pl : va_W} {D : va_G} {cl : List vw_C} {H : Heap} (hP : va_P D cl (((X ++ pl) ++ [x]) ++ rows) H) : va_P D cl ((X ++ [x]) ++ (pl ++ rows)) H := by
  rw [List.append_assoc (X ++ pl)] at hP
  have h := va_P.swap hP
  rw [← List.append_assoc X] at h
  have h2 := va_P.swap h
  rw [List.append_assoc (X ++ [x])] at h2
  exact h2
theorem vr_layD {X rows : va_W} {x : Nat × va_E} {pl : va_W} {A : Nat → Prop} (hD : va_D A (((X ++ pl) ++ [x]) ++ rows)) : va_D A ((X ++ [x]) ++ (pl ++ rows)) := by
  rw [List.append_assoc (X ++ pl)] at hD
  have h := va_D.swap hD
  rw [← List.append_assoc X] at h
  have h2 := va_D.swap h
  rw [List.append_assoc (X ++ [x])] at h2
  exact h2
theorem vr_outer (c : ClassId) (N h0 : Nat) : ∀ i : Nat, Jvm.Free.Multi.outerC c N h0 i = arrV c N (fun j => va_rf (if j < i then some (h0 + 1 + j) else none))
  | 0 => by
    show ({ cls := c, slots := Array.replicate N .null, vm := .none } : Cell) = _
    rw [arrV_new]
    refine congrArg (arrV c N) (funext fun j => ?_)
    simp [va_rf]
  | i + 1 => by
    show (Jvm.Free.Multi.outerC c N h0 i).setSlot i (.ref (h0 + 1 + i)) = _
    rw [vr_outer c N h0 i, arrV_store]
    refine congrArg (arrV c N) (funext fun j => ?_)
    by_cases e : j = i
    · subst e
      simp [updV, va_rf]
    · by_cases h : j < i
      · simp [updV, e, h, Nat.lt_succ_of_lt h]
      · simp [updV, e, h, show ¬ j < i + 1 by omega]
section VGM
variable {p : Program} {l : Launch} {e : Env} {R : Room} {s : State} {m : MethodId} {args : Array Value} {below : List Frame} {meth : Method} {c : Code} {H : Heap} {locs : List Loc} {cells slots : Nat} {Q : State → Prop}
variable {cc : ByteArray} {pc : Nat} {ls : Array Slot} {rest : List Value} {D : va_G} {cl : List vw_C} {A : Nat → Prop} {a : Nat} {tys : List (ClassId × FieldType)} {ws : va_W} {H0 : Heap}
theorem va_mna {X : va_W} {L : List Nat} {f : Nat → va_E} {cc : ByteArray} (hexec : p.tables.exec = Jvm.exec) (hb : c.code = cc) {own : String} {index : Nat} {ty : FieldType} {cy : ClassId} (hown : s.vm.findClass own = some m.cls) (hclink : (Cond.classLink own index ("[" ++ (FieldType.array ty).toString)).before args s = true) (hover : va_AOA ty s) (harr : (Cond.arrayClass ty).before args s = true) (hcy : s.vm.findClass (FieldType.array ty).toString = some cy)
    (hK : va_K D cl tys s) (hP : va_P D cl (X ++ va_pl L f) H) (hD : va_D A (X ++ va_pl L f)) (hS : va_S A H0 H locs) (hA : ∀ q, H0.size ≤ q → A q) {n k : Int32} {N' K' : Nat} {z : vp_A} (hn : ¬ n < 0) (hk : ¬ k < 0) (hN : n.toNatClampNeg = N') (hM : k.toNatClampNeg = K')
    (hb1 : N' * 4 ≤ 536870912) (hb2 : K' * componentBytes ty ≤ 536870912) (hb3 : K' ≤ 536870912) (hdf : fits ty (defaultValue ty) = true) (hdd : (defaultValue ty).isDefault = true) (hcells : cells + (1 + N') ≤ R.cells) (hslots : slots + (N' + N' * K') ≤ R.slots) (hz : ∀ c : ClassId, Jvm.Free.Multi.innerC c K' (defaultValue ty) = vp_cell c z) (hdg : decode cc pc = .ok (.multianewarray index 2, 4))
    (kk : ∀ (q : Nat) (r : Nat → Nat) (cA : ClassId) (H1 : Heap), (∀ i j : Nat, i < N' → j < N' → r i = r j → i = j) → (∀ i : Nat, i < N' → r i ∉ L) → va_K D cl (tys ++ [(cA, .array ty)]) s →
      va_P D cl ((X ++ [(q, .inl (cA, N', .inr (.inr (.inr (.inr (fun i => if i < N' then some (r i) else none))))))]) ++ va_pl (L ++ (List.range N').map r) (vr_up f ((List.range N').map r) (.inl (cy, z)))) H1 → va_D A ((X ++ [(q, .inl (cA, N', .inr (.inr (.inr (.inr (fun i => if i < N' then some (r i) else none))))))]) ++ va_pl (L ++ (List.range N').map r) (vr_up f ((List.range N').map r) (.inl (cy, z)))) → va_S A H0 H1 locs →
      W p l e R s m args below meth c H1 locs (cells + 1 + N') (slots + N' + N' * K') Q (F0 m (pc + 4) ls (.ref q :: rest))) : W p l e R s m args below meth c H locs cells slots Q (F0 m pc ls (.int k :: .int n :: rest)) := by
  subst hN
  subst hM
  intro T hT Xs
  obtain ⟨vm₁, cA, comp, -, fA, fC, hO, -, X', step⟩ := Xs.multianewarray2F hexec hown hclink (va_AOA.use hover) harr (g := F0 m pc ls (.int k :: .int n :: rest)) rfl (by rw [hb]; exact hdg) rfl hn hk hb1 hb2 hb3 hdf hdd hcells hslots
  have ec : some cy = some comp := hcy.symm.trans fC
  cases ec
  generalize hF : Jvm.Free.Multi.fill (T.setVm vm₁) cA cy n.toNatClampNeg k.toNatClampNeg (defaultValue ty) n.toNatClampNeg = F at X' step
  have hTh : (T.setVm vm₁).heap = H := hT
  obtain ⟨f1, f2, -, -⟩ := Jvm.Free.Multi.fill_facts (T.setVm vm₁) cA cy n.toNatClampNeg k.toNatClampNeg (defaultValue ty) n.toNatClampNeg
  rw [hF, hTh] at f1 f2
  have hold : ∀ x : Nat, x < H.size → F.heap[x]? = H[x]? := fun x hx => by
    have := Jvm.Free.Multi.fill_old (T.setVm vm₁) cA cy n.toNatClampNeg k.toNatClampNeg (defaultValue ty) (a := x) (by rw [hTh]; exact hx) n.toNatClampNeg
    rw [hF, hTh] at this
    exact this
  have hrow : ∀ j : Nat, j < n.toNatClampNeg → F.heap[H.size + 1 + j]? = some (vp_cell cy z) := fun j hj => by
    have := Jvm.Free.Multi.fill_inner (T.setVm vm₁) cA cy n.toNatClampNeg k.toNatClampNeg (defaultValue ty) n.toNatClampNeg j hj
    rw [hF, hTh, hz] at this
    exact this
  have hout : Jvm.Free.Multi.outerC cA n.toNatClampNeg H.size n.toNatClampNeg = vp_cell cA (n.toNatClampNeg, .inr (.inr (.inr (.inr (fun i => if i < n.toNatClampNeg then some (H.size + 1 + i) else none))))) := by
    rw [vp_cell_q]
    exact vr_outer cA n.toNatClampNeg H.size n.toNatClampNeg
  rw [hout] at f2
  have hlt : ∀ a, a ∈ L → a < H.size := fun a ha => by
    obtain ⟨k9, hk9⟩ := va_pl_get (X := X) (f := f) ha
    exact (hP k9 _ hk9).lt
  have hnl : ∀ i : Nat, i < n.toNatClampNeg → H.size + 1 + i ∉ L := fun i _ h => by
    have := hlt _ h
    omega
  have hnm : ∀ a, a ∈ (List.range n.toNatClampNeg).map (fun i => H.size + 1 + i) → a ∉ L := fun a ha h => by
    obtain ⟨i, -, rfl⟩ := List.mem_map.mp ha
    have := hlt _ h
    omega
  have hP0 : va_P D cl (X ++ va_pl L f) F.heap := hP.kept (fun k9 x hx => hold x.1 ((hP k9 x hx).lt))
  have hP1 : va_P D cl ((X ++ va_pl L f) ++ [(H.size, .inl (cA, n.toNatClampNeg, .inr (.inr (.inr (.inr (fun i => if i < n.toNatClampNeg then some (H.size + 1 + i) else none))))))]) F.heap := hP0.app (fun k9 x hx => by
    have h0 : k9 < 1 := (List.getElem?_eq_some_iff.mp hx).1
    rw [show k9 = 0 by omega] at hx
    cases hx
    exact f2)
  have hP2 : va_P D cl (((X ++ va_pl L f) ++ [(H.size, .inl (cA, n.toNatClampNeg, .inr (.inr (.inr (.inr (fun i => if i < n.toNatClampNeg then some (H.size + 1 + i) else none))))))]) ++ ((List.range n.toNatClampNeg).map (fun i => H.size + 1 + i)).map (fun a => (a, .inl (cy, z)))) F.heap := hP1.app (fun k9 x hx => by
    obtain ⟨a, ha, rfl⟩ := List.mem_map.mp (List.mem_of_getElem? hx)
    obtain ⟨i, hi, rfl⟩ := List.mem_map.mp ha
    exact hrow i (List.mem_range.mp hi))
  have hD2 : va_D A (((X ++ va_pl L f) ++ [(H.size, .inl (cA, n.toNatClampNeg, .inr (.inr (.inr (.inr (fun i => if i < n.toNatClampNeg then some (H.size + 1 + i) else none))))))]) ++ ((List.range n.toNatClampNeg).map (fun i => H.size + 1 + i)).map (fun a => (a, .inl (cy, z)))) := by
    have hD1 := hD.push (e := .inl (cA, n.toNatClampNeg, .inr (.inr (.inr (.inr (fun i => if i < n.toNatClampNeg then some (H.size + 1 + i) else none)))))) hP rfl (hA _ hS.1)
    generalize hW1 : (X ++ va_pl L f) ++ [(H.size, .inl (cA, n.toNatClampNeg, .inr (.inr (.inr (.inr (fun i => if i < n.toNatClampNeg then some (H.size + 1 + i) else none))))))] = W1 at hD1 hP1 ⊢
    have hle : ∀ (k9 : Nat) (x : Nat × va_E), W1[k9]? = some x → x.1 ≤ H.size := fun k9 x hx => by
      rw [← hW1] at hx
      by_cases hl : k9 < (X ++ va_pl L f).length
      · rw [List.getElem?_append_left hl] at hx
        exact Nat.le_of_lt ((hP k9 x hx).lt)
      · rw [List.getElem?_append_right (by omega)] at hx
        have h0 : k9 - (X ++ va_pl L f).length < 1 := (List.getElem?_eq_some_iff.mp hx).1
        rw [show k9 - (X ++ va_pl L f).length = 0 by omega] at hx
        cases hx
        exact Nat.le_refl _
    have hr : ∀ (k9 : Nat) (x : Nat × va_E), (((List.range n.toNatClampNeg).map (fun i => H.size + 1 + i)).map (fun a => ((a, .inl (cy, z)) : Nat × va_E)))[k9]? = some x → x.1 = H.size + 1 + k9 := fun k9 x hx => by
      rw [List.getElem?_map, List.getElem?_map] at hx
      by_cases h9 : k9 < n.toNatClampNeg
      · rw [List.getElem?_range h9] at hx
        cases hx
        rfl
      · have hn0 : (List.range n.toNatClampNeg)[k9]? = none := List.getElem?_eq_none (by rw [List.length_range]; omega)
        rw [hn0] at hx
        cases hx
    refine ⟨fun i j x y hi hj hxy => ?_, fun k9 x hx => ?_⟩
    · by_cases h1 : i < W1.length <;> by_cases h2 : j < W1.length
      · rw [List.getElem?_append_left h1] at hi
        rw [List.getElem?_append_left h2] at hj
        exact hD1.1 i j x y hi hj hxy
      · rw [List.getElem?_append_left h1] at hi
        rw [List.getElem?_append_right (by omega)] at hj
        have := hle _ _ hi
        have := hr _ _ hj
        omega
      · rw [List.getElem?_append_right (by omega)] at hi
        rw [List.getElem?_append_left h2] at hj
        have := hle _ _ hj
        have := hr _ _ hi
        omega
      · rw [List.getElem?_append_right (by omega)] at hi hj
        have := hr _ _ hi
        have := hr _ _ hj
        omega
    · by_cases h1 : k9 < W1.length
      · rw [List.getElem?_append_left h1] at hx
        exact hD1.2 k9 x hx
      · rw [List.getElem?_append_right (by omega)] at hx
        have := hr _ _ hx
        exact hA _ (by have := hS.1; omega)
  have hAr : ArrOfT s cA (.array ty) := fun N9 z9 => by
    obtain ⟨-, k9, hk9, cm9, hkk9⟩ := (hO 0 0 0).1
    exact ⟨(fun q hq => by cases hq), k9, hk9, cm9, hkk9⟩
  have hK2 : va_K D cl (tys ++ [(cA, .array ty)]) s := ⟨hK.1, fun k9 x hx => by
    by_cases hl : k9 < tys.length
    · rw [List.getElem?_append_left hl] at hx
      exact hK.2 k9 x hx
    · rw [List.getElem?_append_right (by omega)] at hx
      have h0 : k9 - tys.length < 1 := (List.getElem?_eq_some_iff.mp hx).1
      rw [show k9 - tys.length = 0 by omega] at hx
      cases hx
      exact ⟨hAr, fA⟩⟩
  obtain ⟨t, a1, b1⟩ := kk H.size (fun i => H.size + 1 + i) cA F.heap (fun i j _ _ h => by have h9 : H.size + 1 + i = H.size + 1 + j := h; omega) hnl hK2 (by rw [← vr_rows hnm]; exact vr_lay hP2) (by rw [← vr_rows hnm]; exact vr_layD hD2) ⟨by rw [f1]; have := hS.1; omega, fun x h1 h2 => (hold x (Nat.lt_of_lt_of_le h1 hS.1)).trans (hS.2.1 x h1 h2), hS.2.2⟩ F rfl X'
  refine ⟨t, step t ?_, b1⟩
  have e : T.heap.size = H.size := by rw [hT]
  rw [e]
  exact a1
end VGM
/-! ===== END ===== -/
def RX0 : String := "StackKeys$Alone"
def TX0 : u_T := fun k => match k with
  | 0 => ("StackKeys$Alone", "seen", "[J", true)
  | 1 => ("StackKeys$Alone", "shutBy", "[[I", true)
  | 2 => ("StackKeys$Alone", "unit", "[I", true)
  | 3 => ("StackKeys$Alone", "left", "[I", true)
  | 4 => ("StackKeys$Alone", "doorsAt", "[I", true)
  | 5 => ("StackKeys$Alone", "barred", "[I", true)
  | 6 => ("StackKeys$Alone", "wants", "[I", true)
  | 7 => ("StackKeys$Alone", "front", "[J", false)
  | 8 => ("StackKeys$Alone", "next", "[J", false)
  | 9 => ("StackKeys$Alone", "wantCount", "I", false)
  | 10 => ("StackKeys$Alone", "hadUnit", "I", false)
  | 11 => ("StackKeys$Alone", "states", "I", false)
  | 12 => ("StackKeys$Alone", "shutByOthers", "I", false)
  | 13 => ("StackKeys$Alone", "goalKind", "I", false)
  | 14 => ("StackKeys$Alone", "goal", "I", false)
  | 15 => ("StackKeys$Alone", "placesSeen", "I", false)
  | _ => ("StackKeys$Alone", "lentActs", "I", false)
def tyX0 : Nat → FieldType := fun k => match k with
  | 0 => .array .long
  | 1 => .array (.array .int)
  | 2 => .array .int
  | 3 => .array .int
  | 4 => .array .int
  | 5 => .array .int
  | 6 => .array .int
  | 7 => .array .long
  | 8 => .array .long
  | 9 => .int
  | 10 => .int
  | 11 => .int
  | 12 => .int
  | 13 => .int
  | 14 => .int
  | 15 => .int
  | _ => .int
abbrev wsX00 : List Cond := u_ws RX0 TX0 17
theorem nmX0 : ∀ a, a < 17 → ∀ b, b < 17 → a ≠ b → (TX0 a).2.1 ≠ (TX0 b).2.1 := by decide +kernel
theorem tyX0_ok : ∀ k, k < 17 → parseFieldDescriptor (TX0 k).2.2.1 = some (tyX0 k) := by decide +kernel
abbrev cX0_init : ByteArray := prog_2_method_1_code
def yX0_init : MethodName := ⟨RX0, "<init>", "()V"⟩
abbrev cX0_placesOf : ByteArray := prog_2_method_2_code
def yX0_placesOf : MethodName := ⟨RX0, "placesOf", "(LStackKeys$Town;I)I"⟩
abbrev cX0_bestLent : ByteArray := prog_2_method_3_code
def yX0_bestLent : MethodName := ⟨RX0, "bestLent", "(LStackKeys$Town;II)I"⟩
abbrev cX0_search : ByteArray := prog_2_method_4_code
def yX0_search : MethodName := ⟨RX0, "search", "(LStackKeys$Town;IIII)I"⟩
abbrev cX0_prepareWants : ByteArray := prog_2_method_5_code
def yX0_prepareWants : MethodName := ⟨RX0, "prepareWants", "(LStackKeys$Town;I)V"⟩
abbrev cX0_prepareKeys : ByteArray := prog_2_method_6_code
def yX0_prepareKeys : MethodName := ⟨RX0, "prepareKeys", "(LStackKeys$Town;I)V"⟩
abbrev cX0_prepareDoors : ByteArray := prog_2_method_7_code
def yX0_prepareDoors : MethodName := ⟨RX0, "prepareDoors", "(LStackKeys$Town;)V"⟩
abbrev cX0_prepareBars : ByteArray := prog_2_method_8_code
def yX0_prepareBars : MethodName := ⟨RX0, "prepareBars", "(LStackKeys$Town;II)V"⟩
abbrev cX0_clearSets : ByteArray := prog_2_method_9_code
def yX0_clearSets : MethodName := ⟨RX0, "clearSets", "()V"⟩
abbrev cX0_markStart : ByteArray := prog_2_method_10_code
def yX0_markStart : MethodName := ⟨RX0, "markStart", "(LStackKeys$Town;II)V"⟩
abbrev cX0_advance : ByteArray := prog_2_method_11_code
def yX0_advance : MethodName := ⟨RX0, "advance", "()Z"⟩
abbrev cX0_searchLevel : ByteArray := prog_2_method_12_code
def yX0_searchLevel : MethodName := ⟨RX0, "searchLevel", "(LStackKeys$Town;)Z"⟩
abbrev cX0_visit : ByteArray := prog_2_method_13_code
def yX0_visit : MethodName := ⟨RX0, "visit", "(LStackKeys$Town;I)Z"⟩
abbrev cX0_isGoal : ByteArray := prog_2_method_14_code
def yX0_isGoal : MethodName := ⟨RX0, "isGoal", "(III)Z"⟩
abbrev cX0_markGoing : ByteArray := prog_2_method_15_code
def yX0_markGoing : MethodName := ⟨RX0, "markGoing", "(LStackKeys$Town;IIII)V"⟩
abbrev cX0_markOpening : ByteArray := prog_2_method_16_code
def yX0_markOpening : MethodName := ⟨RX0, "markOpening", "(LStackKeys$Town;III)V"⟩
abbrev cX0_shutNow : ByteArray := prog_2_method_17_code
def yX0_shutNow : MethodName := ⟨RX0, "shutNow", "(LStackKeys$Town;)I"⟩
abbrev cX0_hadAt : ByteArray := prog_2_method_18_code
def yX0_hadAt : MethodName := ⟨RX0, "hadAt", "(LStackKeys$Town;II)I"⟩
abbrev cX0_mark : ByteArray := prog_2_method_19_code
def yX0_mark : MethodName := ⟨RX0, "mark", "(I)V"⟩
def RX1 : String := "StackKeys$Found"
def TX1 : u_T := fun k => match k with
  | 0 => ("StackKeys$Found", "triedDoor", "[I", true)
  | 1 => ("StackKeys$Found", "triedOpened", "[Z", true)
  | 2 => ("StackKeys$Found", "first", "[I", true)
  | 3 => ("StackKeys$Found", "row", "[I", true)
  | 4 => ("StackKeys$Found", "trials", "I", false)
  | 5 => ("StackKeys$Found", "fitting", "I", false)
  | 6 => ("StackKeys$Found", "firstSize", "I", false)
  | _ => ("StackKeys$Found", "opening", "I", false)
def tyX1 : Nat → FieldType := fun k => match k with
  | 0 => .array .int
  | 1 => .array .boolean
  | 2 => .array .int
  | 3 => .array .int
  | 4 => .int
  | 5 => .int
  | 6 => .int
  | _ => .int
abbrev wsX10 : List Cond := u_ws RX1 TX1 8
theorem nmX1 : ∀ a, a < 8 → ∀ b, b < 8 → a ≠ b → (TX1 a).2.1 ≠ (TX1 b).2.1 := by decide +kernel
theorem tyX1_ok : ∀ k, k < 8 → parseFieldDescriptor (TX1 k).2.2.1 = some (tyX1 k) := by decide +kernel
abbrev cX1_init : ByteArray := prog_3_method_1_code
def yX1_init : MethodName := ⟨RX1, "<init>", "()V"⟩
abbrev cX1_add : ByteArray := prog_3_method_2_code
def yX1_add : MethodName := ⟨RX1, "add", "(IZ)Z"⟩
abbrev cX1_survey : ByteArray := prog_3_method_3_code
def yX1_survey : MethodName := ⟨RX1, "survey", "(LStackKeys$Town;I)V"⟩
abbrev cX1_isRow : ByteArray := prog_3_method_4_code
def yX1_isRow : MethodName := ⟨RX1, "isRow", "(LStackKeys$Town;II)Z"⟩
abbrev cX1_weigh : ByteArray := prog_3_method_5_code
def yX1_weigh : MethodName := ⟨RX1, "weigh", "(II)V"⟩
abbrev cX1_leftOf : ByteArray := prog_3_method_6_code
def yX1_leftOf : MethodName := ⟨RX1, "leftOf", "(I)I"⟩
abbrev cX1_topOf : ByteArray := prog_3_method_7_code
def yX1_topOf : MethodName := ⟨RX1, "topOf", "(I)I"⟩
def RX2 : String := "StackKeys$Hours"
def TX2 : u_T := fun k => match k with
  | _ => ("StackKeys$Hours", "keyOf", "[I", true)
def tyX2 : Nat → FieldType := fun k => match k with
  | _ => .array .int
abbrev wsX20 : List Cond := u_ws RX2 TX2 1
theorem nmX2 : ∀ a, a < 1 → ∀ b, b < 1 → a ≠ b → (TX2 a).2.1 ≠ (TX2 b).2.1 := by decide +kernel
theorem tyX2_ok : ∀ k, k < 1 → parseFieldDescriptor (TX2 k).2.2.1 = some (tyX2 k) := by decide +kernel
abbrev cX2_init : ByteArray := prog_4_method_1_code
def yX2_init : MethodName := ⟨RX2, "<init>", "()V"⟩
abbrev cX2_firstCrossing : ByteArray := prog_4_method_2_code
def yX2_firstCrossing : MethodName := ⟨RX2, "firstCrossing", "(LStackKeys$Town;Z)I"⟩
abbrev cX2_fewestKeys : ByteArray := prog_4_method_3_code
def yX2_fewestKeys : MethodName := ⟨RX2, "fewestKeys", "(LStackKeys$Town;)I"⟩
abbrev cX2_giveKeys : ByteArray := prog_4_method_4_code
def yX2_giveKeys : MethodName := ⟨RX2, "giveKeys", "(LStackKeys$Town;II)Z"⟩
abbrev cX2_canTake : ByteArray := prog_4_method_5_code
def yX2_canTake : MethodName := ⟨RX2, "canTake", "(LStackKeys$Town;II)Z"⟩
abbrev cX2_areCrossing : ByteArray := prog_4_method_6_code
def yX2_areCrossing : MethodName := ⟨RX2, "areCrossing", "(LStackKeys$Town;II)Z"⟩
abbrev cX2_inOrder : ByteArray := prog_4_method_7_code
def yX2_inOrder : MethodName := ⟨RX2, "inOrder", "(LStackKeys$Town;I)I"⟩
abbrev cX2_isAhead : ByteArray := prog_4_method_8_code
def yX2_isAhead : MethodName := ⟨RX2, "isAhead", "(LStackKeys$Town;II)Z"⟩
def RX3 : String := "StackKeys$Lexer"
def TX3 : u_T := fun k => match k with
  | 0 => ("StackKeys$Lexer", "tape", "LStackKeys$Tape;", true)
  | 1 => ("StackKeys$Lexer", "at", "I", false)
  | 2 => ("StackKeys$Lexer", "kind", "I", false)
  | 3 => ("StackKeys$Lexer", "start", "I", false)
  | 4 => ("StackKeys$Lexer", "value", "I", false)
  | 5 => ("StackKeys$Lexer", "lastEnd", "I", false)
  | _ => ("StackKeys$Lexer", "ahead", "Z", false)
def tyX3 : Nat → FieldType := fun k => match k with
  | 0 => .object "StackKeys$Tape"
  | 1 => .int
  | 2 => .int
  | 3 => .int
  | 4 => .int
  | 5 => .int
  | _ => .boolean
abbrev wsX30 : List Cond := u_ws RX3 TX3 7
theorem nmX3 : ∀ a, a < 7 → ∀ b, b < 7 → a ≠ b → (TX3 a).2.1 ≠ (TX3 b).2.1 := by decide +kernel
theorem tyX3_ok : ∀ k, k < 7 → parseFieldDescriptor (TX3 k).2.2.1 = some (tyX3 k) := by decide +kernel
abbrev cX3_init : ByteArray := prog_5_method_1_code
def yX3_init : MethodName := ⟨RX3, "<init>", "(LStackKeys$Tape;)V"⟩
abbrev cX3_begin : ByteArray := prog_5_method_2_code
def yX3_begin : MethodName := ⟨RX3, "begin", "()V"⟩
abbrev cX3_pass : ByteArray := prog_5_method_3_code
def yX3_pass : MethodName := ⟨RX3, "pass", "()V"⟩
abbrev cX3_isSign : ByteArray := prog_5_method_4_code
def yX3_isSign : MethodName := ⟨RX3, "isSign", "(C)Z"⟩
abbrev cX3_look : ByteArray := prog_5_method_5_code
def yX3_look : MethodName := ⟨RX3, "look", "()V"⟩
abbrev cX3_cut : ByteArray := prog_5_method_6_code
def yX3_cut : MethodName := ⟨RX3, "cut", "(ICCI)V"⟩
def RX4 : String := "StackKeys$Picture"
def TX4 : u_T := fun k => match k with
  | 0 => ("StackKeys$Picture", "bytes", "[I", true)
  | 1 => ("StackKeys$Picture", "draft", "LStackKeys$Standing;", true)
  | _ => ("StackKeys$Picture", "size", "I", false)
def tyX4 : Nat → FieldType := fun k => match k with
  | 0 => .array .int
  | 1 => .object "StackKeys$Standing"
  | _ => .int
abbrev wsX40 : List Cond := u_ws RX4 TX4 3
theorem nmX4 : ∀ a, a < 3 → ∀ b, b < 3 → a ≠ b → (TX4 a).2.1 ≠ (TX4 b).2.1 := by decide +kernel
theorem tyX4_ok : ∀ k, k < 3 → parseFieldDescriptor (TX4 k).2.2.1 = some (tyX4 k) := by decide +kernel
abbrev cX4_init : ByteArray := prog_6_method_1_code
def yX4_init : MethodName := ⟨RX4, "<init>", "()V"⟩
abbrev cX4_write : ByteArray := prog_6_method_2_code
def yX4_write : MethodName := ⟨RX4, "write", "(LStackKeys$Town;)I"⟩
abbrev cX4_put : ByteArray := prog_6_method_3_code
def yX4_put : MethodName := ⟨RX4, "put", "(I)V"⟩
abbrev cX4_summed : ByteArray := prog_6_method_4_code
def yX4_summed : MethodName := ⟨RX4, "summed", "(II)I"⟩
abbrev cX4_accept : ByteArray := prog_6_method_5_code
def yX4_accept : MethodName := ⟨RX4, "accept", "(LStackKeys$Town;LStackKeys$Tape;)Z"⟩
abbrev cX4_acceptKey : ByteArray := prog_6_method_6_code
def yX4_acceptKey : MethodName := ⟨RX4, "acceptKey", "(LStackKeys$Town;LStackKeys$Tape;II)Z"⟩
abbrev cX4_isWhere : ByteArray := prog_6_method_7_code
def yX4_isWhere : MethodName := ⟨RX4, "isWhere", "(LStackKeys$Town;I)Z"⟩
abbrev cX4_sumOf : ByteArray := prog_6_method_8_code
def yX4_sumOf : MethodName := ⟨RX4, "sumOf", "(LStackKeys$Tape;I)I"⟩
def RX5 : String := "StackKeys$Reader"
def TX5 : u_T := fun k => match k with
  | 0 => ("StackKeys$Reader", "lexer", "LStackKeys$Lexer;", true)
  | 1 => ("StackKeys$Reader", "own", "[I", true)
  | 2 => ("StackKeys$Reader", "fault", "I", false)
  | 3 => ("StackKeys$Reader", "faultPlace", "I", false)
  | _ => ("StackKeys$Reader", "bracketsOpen", "I", false)
def tyX5 : Nat → FieldType := fun k => match k with
  | 0 => .object "StackKeys$Lexer"
  | 1 => .array .int
  | 2 => .int
  | 3 => .int
  | _ => .int
abbrev wsX50 : List Cond := u_ws RX5 TX5 5
theorem nmX5 : ∀ a, a < 5 → ∀ b, b < 5 → a ≠ b → (TX5 a).2.1 ≠ (TX5 b).2.1 := by decide +kernel
theorem tyX5_ok : ∀ k, k < 5 → parseFieldDescriptor (TX5 k).2.2.1 = some (tyX5 k) := by decide +kernel
abbrev cX5_init : ByteArray := prog_7_method_1_code
def yX5_init : MethodName := ⟨RX5, "<init>", "(LStackKeys$Tape;)V"⟩
abbrev cX5_readTown : ByteArray := prog_7_method_2_code
def yX5_readTown : MethodName := ⟨RX5, "readTown", "(LStackKeys$Town;)I"⟩
abbrev cX5_statementWord : ByteArray := prog_7_method_3_code
def yX5_statementWord : MethodName := ⟨RX5, "statementWord", "(LStackKeys$Town;)I"⟩
abbrev cX5_readDoor : ByteArray := prog_7_method_4_code
def yX5_readDoor : MethodName := ⟨RX5, "readDoor", "(LStackKeys$Town;)Z"⟩
abbrev cX5_readBox : ByteArray := prog_7_method_5_code
def yX5_readBox : MethodName := ⟨RX5, "readBox", "(LStackKeys$Town;)Z"⟩
abbrev cX5_readKey : ByteArray := prog_7_method_6_code
def yX5_readKey : MethodName := ⟨RX5, "readKey", "(LStackKeys$Town;)Z"⟩
abbrev cX5_readPerson : ByteArray := prog_7_method_7_code
def yX5_readPerson : MethodName := ⟨RX5, "readPerson", "(LStackKeys$Town;)Z"⟩
abbrev cX5_readThing : ByteArray := prog_7_method_8_code
def yX5_readThing : MethodName := ⟨RX5, "readThing", "(LStackKeys$Town;)Z"⟩
abbrev cX5_readWants : ByteArray := prog_7_method_9_code
def yX5_readWants : MethodName := ⟨RX5, "readWants", "(LStackKeys$Town;)Z"⟩
abbrev cX5_readMust : ByteArray := prog_7_method_10_code
def yX5_readMust : MethodName := ⟨RX5, "readMust", "(LStackKeys$Town;)Z"⟩
abbrev cX5_readBar : ByteArray := prog_7_method_11_code
def yX5_readBar : MethodName := ⟨RX5, "readBar", "(LStackKeys$Town;)Z"⟩
abbrev cX5_readHas : ByteArray := prog_7_method_12_code
def yX5_readHas : MethodName := ⟨RX5, "readHas", "(LStackKeys$Town;)Z"⟩
abbrev cX5_readShut : ByteArray := prog_7_method_13_code
def yX5_readShut : MethodName := ⟨RX5, "readShut", "(LStackKeys$Town;)Z"⟩
abbrev cX5_readLost : ByteArray := prog_7_method_14_code
def yX5_readLost : MethodName := ⟨RX5, "readLost", "(LStackKeys$Town;)Z"⟩
abbrev cX5_readTest : ByteArray := prog_7_method_15_code
def yX5_readTest : MethodName := ⟨RX5, "readTest", "(LStackKeys$Tests;)Z"⟩
abbrev cX5_readBoth : ByteArray := prog_7_method_16_code
def yX5_readBoth : MethodName := ⟨RX5, "readBoth", "(LStackKeys$Tests;)Z"⟩
abbrev cX5_readFact : ByteArray := prog_7_method_17_code
def yX5_readFact : MethodName := ⟨RX5, "readFact", "(LStackKeys$Tests;)Z"⟩
abbrev cX5_readSum : ByteArray := prog_7_method_18_code
def yX5_readSum : MethodName := ⟨RX5, "readSum", "(LStackKeys$Tests;)Z"⟩
abbrev cX5_readProduct : ByteArray := prog_7_method_19_code
def yX5_readProduct : MethodName := ⟨RX5, "readProduct", "(LStackKeys$Tests;)Z"⟩
abbrev cX5_readPart : ByteArray := prog_7_method_20_code
def yX5_readPart : MethodName := ⟨RX5, "readPart", "(LStackKeys$Tests;)Z"⟩
abbrev cX5_readPair : ByteArray := prog_7_method_21_code
def yX5_readPair : MethodName := ⟨RX5, "readPair", "(LStackKeys$Tests;)Z"⟩
abbrev cX5_comparisonSign : ByteArray := prog_7_method_22_code
def yX5_comparisonSign : MethodName := ⟨RX5, "comparisonSign", "()I"⟩
abbrev cX5_enter : ByteArray := prog_7_method_23_code
def yX5_enter : MethodName := ⟨RX5, "enter", "()Z"⟩
abbrev cX5_leave : ByteArray := prog_7_method_24_code
def yX5_leave : MethodName := ⟨RX5, "leave", "()Z"⟩
abbrev cX5_isNameAhead : ByteArray := prog_7_method_25_code
def yX5_isNameAhead : MethodName := ⟨RX5, "isNameAhead", "()Z"⟩
abbrev cX5_newName : ByteArray := prog_7_method_26_code
def yX5_newName : MethodName := ⟨RX5, "newName", "(LStackKeys$Town;)I"⟩
abbrev cX5_asked : ByteArray := prog_7_method_27_code
def yX5_asked : MethodName := ⟨RX5, "asked", "(LStackKeys$Town;I)I"⟩
abbrev cX5_askedSpot : ByteArray := prog_7_method_28_code
def yX5_askedSpot : MethodName := ⟨RX5, "askedSpot", "(LStackKeys$Town;)I"⟩
abbrev cX5_number : ByteArray := prog_7_method_29_code
def yX5_number : MethodName := ⟨RX5, "number", "(II)I"⟩
abbrev cX5_ownWord : ByteArray := prog_7_method_30_code
def yX5_ownWord : MethodName := ⟨RX5, "ownWord", "(I)Z"⟩
abbrev cX5_sign : ByteArray := prog_7_method_31_code
def yX5_sign : MethodName := ⟨RX5, "sign", "(C)Z"⟩
abbrev cX5_passesWord : ByteArray := prog_7_method_32_code
def yX5_passesWord : MethodName := ⟨RX5, "passesWord", "(I)Z"⟩
abbrev cX5_passesSign : ByteArray := prog_7_method_33_code
def yX5_passesSign : MethodName := ⟨RX5, "passesSign", "(C)Z"⟩
abbrev cX5_bad : ByteArray := prog_7_method_34_code
def yX5_bad : MethodName := ⟨RX5, "bad", "(I)Z"⟩
abbrev cX5_none : ByteArray := prog_7_method_35_code
def yX5_none : MethodName := ⟨RX5, "none", "(I)I"⟩
def RX6 : String := "StackKeys$Standing"
def TX6 : u_T := fun k => match k with
  | 0 => ("StackKeys$Standing", "spot", "[I", true)
  | 1 => ("StackKeys$Standing", "where", "[I", true)
  | 2 => ("StackKeys$Standing", "rowSize", "[I", true)
  | _ => ("StackKeys$Standing", "rows", "[[I", true)
def tyX6 : Nat → FieldType := fun k => match k with
  | 0 => .array .int
  | 1 => .array .int
  | 2 => .array .int
  | _ => .array (.array .int)
abbrev wsX60 : List Cond := u_ws RX6 TX6 4
theorem nmX6 : ∀ a, a < 4 → ∀ b, b < 4 → a ≠ b → (TX6 a).2.1 ≠ (TX6 b).2.1 := by decide +kernel
theorem tyX6_ok : ∀ k, k < 4 → parseFieldDescriptor (TX6 k).2.2.1 = some (tyX6 k) := by decide +kernel
abbrev cX6_init : ByteArray := prog_8_method_1_code
def yX6_init : MethodName := ⟨RX6, "<init>", "()V"⟩
abbrev cX6_copyFrom : ByteArray := prog_8_method_2_code
def yX6_copyFrom : MethodName := ⟨RX6, "copyFrom", "(LStackKeys$Standing;)V"⟩
abbrev cX6_inRow : ByteArray := prog_8_method_3_code
def yX6_inRow : MethodName := ⟨RX6, "inRow", "(II)I"⟩
abbrev cX6_topOf : ByteArray := prog_8_method_4_code
def yX6_topOf : MethodName := ⟨RX6, "topOf", "(I)I"⟩
abbrev cX6_placeInRow : ByteArray := prog_8_method_5_code
def yX6_placeInRow : MethodName := ⟨RX6, "placeInRow", "(II)I"⟩
abbrev cX6_push : ByteArray := prog_8_method_6_code
def yX6_push : MethodName := ⟨RX6, "push", "(II)Z"⟩
abbrev cX6_rowMask : ByteArray := prog_8_method_7_code
def yX6_rowMask : MethodName := ⟨RX6, "rowMask", "(I)I"⟩
def RX7 : String := "StackKeys$Tape"
def TX7 : u_T := fun k => match k with
  | 0 => ("StackKeys$Tape", "bytes", "[B", true)
  | _ => ("StackKeys$Tape", "size", "I", false)
def tyX7 : Nat → FieldType := fun k => match k with
  | 0 => .array .byte
  | _ => .int
abbrev wsX70 : List Cond := u_ws RX7 TX7 2
theorem nmX7 : ∀ a, a < 2 → ∀ b, b < 2 → a ≠ b → (TX7 a).2.1 ≠ (TX7 b).2.1 := by decide +kernel
theorem tyX7_ok : ∀ k, k < 2 → parseFieldDescriptor (TX7 k).2.2.1 = some (tyX7 k) := by decide +kernel
abbrev cX7_init : ByteArray := prog_9_method_1_code
def yX7_init : MethodName := ⟨RX7, "<init>", "()V"⟩
abbrev cX7_hasRoom : ByteArray := prog_9_method_2_code
def yX7_hasRoom : MethodName := ⟨RX7, "hasRoom", "()Z"⟩
abbrev cX7_put : ByteArray := prog_9_method_3_code
def yX7_put : MethodName := ⟨RX7, "put", "(I)V"⟩
abbrev cX7_at : ByteArray := prog_9_method_4_code
def yX7_at : MethodName := ⟨RX7, "at", "(I)I"⟩
def RX8 : String := "StackKeys$Tests"
def TX8 : u_T := fun k => match k with
  | 0 => ("StackKeys$Tests", "code", "[I", true)
  | 1 => ("StackKeys$Tests", "stack", "[I", true)
  | _ => ("StackKeys$Tests", "size", "I", false)
def tyX8 : Nat → FieldType := fun k => match k with
  | 0 => .array .int
  | 1 => .array .int
  | _ => .int
abbrev wsX80 : List Cond := u_ws RX8 TX8 3
theorem nmX8 : ∀ a, a < 3 → ∀ b, b < 3 → a ≠ b → (TX8 a).2.1 ≠ (TX8 b).2.1 := by decide +kernel
theorem tyX8_ok : ∀ k, k < 3 → parseFieldDescriptor (TX8 k).2.2.1 = some (tyX8 k) := by decide +kernel
abbrev cX8_init : ByteArray := prog_10_method_1_code
def yX8_init : MethodName := ⟨RX8, "<init>", "()V"⟩
abbrev cX8_add : ByteArray := prog_10_method_2_code
def yX8_add : MethodName := ⟨RX8, "add", "(I)Z"⟩
abbrev cX8_holds : ByteArray := prog_10_method_3_code
def yX8_holds : MethodName := ⟨RX8, "holds", "(IIIIII)Z"⟩
abbrev cX8_value : ByteArray := prog_10_method_4_code
def yX8_value : MethodName := ⟨RX8, "value", "(IIIII)I"⟩
abbrev cX8_joined : ByteArray := prog_10_method_5_code
def yX8_joined : MethodName := ⟨RX8, "joined", "(III)I"⟩
abbrev cX8_bounded : ByteArray := prog_10_method_6_code
def yX8_bounded : MethodName := ⟨RX8, "bounded", "(J)I"⟩
def RX9 : String := "StackKeys$Town"
def TX9 : u_T := fun k => match k with
  | 0 => ("StackKeys$Town", "counts", "[I", true)
  | 1 => ("StackKeys$Town", "names", "[[I", true)
  | 2 => ("StackKeys$Town", "first", "[I", true)
  | 3 => ("StackKeys$Town", "second", "[I", true)
  | 4 => ("StackKeys$Town", "minutes", "[I", true)
  | 5 => ("StackKeys$Town", "thingWhere", "[I", true)
  | 6 => ("StackKeys$Town", "wanted", "[I", true)
  | 7 => ("StackKeys$Town", "mustDoor", "[I", true)
  | 8 => ("StackKeys$Town", "mustBegin", "[I", true)
  | 9 => ("StackKeys$Town", "mustEnd", "[I", true)
  | 10 => ("StackKeys$Town", "barDoor", "[I", true)
  | 11 => ("StackKeys$Town", "barFrom", "[I", true)
  | 12 => ("StackKeys$Town", "barTo", "[I", true)
  | 13 => ("StackKeys$Town", "tests", "LStackKeys$Tests;", true)
  | 14 => ("StackKeys$Town", "now", "LStackKeys$Standing;", true)
  | _ => ("StackKeys$Town", "lost", "I", false)
def tyX9 : Nat → FieldType := fun k => match k with
  | 0 => .array .int
  | 1 => .array (.array .int)
  | 2 => .array .int
  | 3 => .array .int
  | 4 => .array .int
  | 5 => .array .int
  | 6 => .array .int
  | 7 => .array .int
  | 8 => .array .int
  | 9 => .array .int
  | 10 => .array .int
  | 11 => .array .int
  | 12 => .array .int
  | 13 => .object "StackKeys$Tests"
  | 14 => .object "StackKeys$Standing"
  | _ => .int
abbrev wsX90 : List Cond := u_ws RX9 TX9 16
theorem nmX9 : ∀ a, a < 16 → ∀ b, b < 16 → a ≠ b → (TX9 a).2.1 ≠ (TX9 b).2.1 := by decide +kernel
theorem tyX9_ok : ∀ k, k < 16 → parseFieldDescriptor (TX9 k).2.2.1 = some (tyX9 k) := by decide +kernel
abbrev cX9_init : ByteArray := prog_11_method_1_code
def yX9_init : MethodName := ⟨RX9, "<init>", "()V"⟩
abbrev cX9_clear : ByteArray := prog_11_method_2_code
def yX9_clear : MethodName := ⟨RX9, "clear", "()V"⟩
abbrev cX9_isThere : ByteArray := prog_11_method_3_code
def yX9_isThere : MethodName := ⟨RX9, "isThere", "(II)Z"⟩
abbrev cX9_find : ByteArray := prog_11_method_4_code
def yX9_find : MethodName := ⟨RX9, "find", "(II)I"⟩
abbrev cX9_add : ByteArray := prog_11_method_5_code
def yX9_add : MethodName := ⟨RX9, "add", "(II)Z"⟩
abbrev cX9_addDoor : ByteArray := prog_11_method_6_code
def yX9_addDoor : MethodName := ⟨RX9, "addDoor", "(IIII)Z"⟩
abbrev cX9_addKey : ByteArray := prog_11_method_7_code
def yX9_addKey : MethodName := ⟨RX9, "addKey", "(II)Z"⟩
abbrev cX9_addPerson : ByteArray := prog_11_method_8_code
def yX9_addPerson : MethodName := ⟨RX9, "addPerson", "(II)Z"⟩
abbrev cX9_addThing : ByteArray := prog_11_method_9_code
def yX9_addThing : MethodName := ⟨RX9, "addThing", "(II)Z"⟩
abbrev cX9_addMust : ByteArray := prog_11_method_10_code
def yX9_addMust : MethodName := ⟨RX9, "addMust", "(III)Z"⟩
abbrev cX9_addBar : ByteArray := prog_11_method_11_code
def yX9_addBar : MethodName := ⟨RX9, "addBar", "(III)Z"⟩
abbrev cX9_isBox : ByteArray := prog_11_method_12_code
def yX9_isBox : MethodName := ⟨RX9, "isBox", "(I)Z"⟩
abbrev cX9_isAt : ByteArray := prog_11_method_13_code
def yX9_isAt : MethodName := ⟨RX9, "isAt", "(II)Z"⟩
abbrev cX9_otherSide : ByteArray := prog_11_method_14_code
def yX9_otherSide : MethodName := ⟨RX9, "otherSide", "(II)I"⟩
abbrev cX9_hasDoorAt : ByteArray := prog_11_method_15_code
def yX9_hasDoorAt : MethodName := ⟨RX9, "hasDoorAt", "(I)Z"⟩
abbrev cX9_shutMask : ByteArray := prog_11_method_16_code
def yX9_shutMask : MethodName := ⟨RX9, "shutMask", "()I"⟩
abbrev cX9_deadMask : ByteArray := prog_11_method_17_code
def yX9_deadMask : MethodName := ⟨RX9, "deadMask", "()I"⟩
abbrev cX9_isShut : ByteArray := prog_11_method_18_code
def yX9_isShut : MethodName := ⟨RX9, "isShut", "(I)Z"⟩
abbrev cX9_rowsWith : ByteArray := prog_11_method_19_code
def yX9_rowsWith : MethodName := ⟨RX9, "rowsWith", "(I)I"⟩
abbrev cX9_keysOf : ByteArray := prog_11_method_20_code
def yX9_keysOf : MethodName := ⟨RX9, "keysOf", "(I)I"⟩
abbrev cX9_holdsKey : ByteArray := prog_11_method_21_code
def yX9_holdsKey : MethodName := ⟨RX9, "holdsKey", "(II)Z"⟩
abbrev cX9_isBarred : ByteArray := prog_11_method_22_code
def yX9_isBarred : MethodName := ⟨RX9, "isBarred", "(IIIII)Z"⟩
abbrev cX9_goThrough : ByteArray := prog_11_method_23_code
def yX9_goThrough : MethodName := ⟨RX9, "goThrough", "(II)I"⟩
abbrev cX9_openWith : ByteArray := prog_11_method_24_code
def yX9_openWith : MethodName := ⟨RX9, "openWith", "(II)I"⟩
abbrev cX9_shutWith : ByteArray := prog_11_method_25_code
def yX9_shutWith : MethodName := ⟨RX9, "shutWith", "(III)I"⟩
abbrev cX9_lendTo : ByteArray := prog_11_method_26_code
def yX9_lendTo : MethodName := ⟨RX9, "lendTo", "(III)Z"⟩
abbrev cX9_takeUp : ByteArray := prog_11_method_27_code
def yX9_takeUp : MethodName := ⟨RX9, "takeUp", "(II)Z"⟩
abbrev cX9_layDown : ByteArray := prog_11_method_28_code
def yX9_layDown : MethodName := ⟨RX9, "layDown", "(III)Z"⟩
abbrev cX9_isOpenBoxAt : ByteArray := prog_11_method_29_code
def yX9_isOpenBoxAt : MethodName := ⟨RX9, "isOpenBoxAt", "(II)Z"⟩
abbrev cX9_toldAct : ByteArray := prog_11_method_30_code
def yX9_toldAct : MethodName := ⟨RX9, "toldAct", "(III)I"⟩
abbrev cX9_shuttingKey : ByteArray := prog_11_method_31_code
def yX9_shuttingKey : MethodName := ⟨RX9, "shuttingKey", "(II)I"⟩
abbrev cX9_holdersOf : ByteArray := prog_11_method_32_code
def yX9_holdersOf : MethodName := ⟨RX9, "holdersOf", "(I)I"⟩
abbrev cX9_workOf : ByteArray := prog_11_method_33_code
def yX9_workOf : MethodName := ⟨RX9, "workOf", "(I)I"⟩
def RX10 : String := "StackKeys$Watch"
def TX10 : u_T := fun k => match k with
  | 0 => ("StackKeys$Watch", "way", "[I", true)
  | _ => ("StackKeys$Watch", "least", "[I", true)
def tyX10 : Nat → FieldType := fun k => match k with
  | 0 => .array .int
  | _ => .array .int
abbrev wsX100 : List Cond := u_ws RX10 TX10 2
theorem nmX10 : ∀ a, a < 2 → ∀ b, b < 2 → a ≠ b → (TX10 a).2.1 ≠ (TX10 b).2.1 := by decide +kernel
theorem tyX10_ok : ∀ k, k < 2 → parseFieldDescriptor (TX10 k).2.2.1 = some (tyX10 k) := by decide +kernel
abbrev cX10_init : ByteArray := prog_12_method_1_code
def yX10_init : MethodName := ⟨RX10, "<init>", "()V"⟩
abbrev cX10_minutesOf : ByteArray := prog_12_method_2_code
def yX10_minutesOf : MethodName := ⟨RX10, "minutesOf", "(LStackKeys$Town;II)I"⟩
abbrev cX10_measureWays : ByteArray := prog_12_method_3_code
def yX10_measureWays : MethodName := ⟨RX10, "measureWays", "(LStackKeys$Town;I)V"⟩
abbrev cX10_wayOf : ByteArray := prog_12_method_4_code
def yX10_wayOf : MethodName := ⟨RX10, "wayOf", "(II)I"⟩
abbrev cX10_shorten : ByteArray := prog_12_method_5_code
def yX10_shorten : MethodName := ⟨RX10, "shorten", "(III)V"⟩
abbrev cX10_walk : ByteArray := prog_12_method_6_code
def yX10_walk : MethodName := ⟨RX10, "walk", "(II)I"⟩
abbrev cX10_walkOn : ByteArray := prog_12_method_7_code
def yX10_walkOn : MethodName := ⟨RX10, "walkOn", "(IIII)V"⟩
def RX11 : String := "StackKeys"
def TX11 : u_T := fun k => match k with
  | 0 => ("StackKeys", "tape", "LStackKeys$Tape;", true)
  | 1 => ("StackKeys", "reader", "LStackKeys$Reader;", true)
  | 2 => ("StackKeys", "alone", "LStackKeys$Alone;", true)
  | 3 => ("StackKeys", "hours", "LStackKeys$Hours;", true)
  | 4 => ("StackKeys", "found", "LStackKeys$Found;", true)
  | 5 => ("StackKeys", "watch", "LStackKeys$Watch;", true)
  | 6 => ("StackKeys", "picture", "LStackKeys$Picture;", true)
  | 7 => ("StackKeys", "kept", "LStackKeys$Standing;", true)
  | 8 => ("StackKeys", "refusals", "[I", true)
  | 9 => ("StackKeys", "present", "LStackKeys$Town;", false)
  | _ => ("StackKeys", "spare", "LStackKeys$Town;", false)
def tyX11 : Nat → FieldType := fun k => match k with
  | 0 => .object "StackKeys$Tape"
  | 1 => .object "StackKeys$Reader"
  | 2 => .object "StackKeys$Alone"
  | 3 => .object "StackKeys$Hours"
  | 4 => .object "StackKeys$Found"
  | 5 => .object "StackKeys$Watch"
  | 6 => .object "StackKeys$Picture"
  | 7 => .object "StackKeys$Standing"
  | 8 => .array .int
  | 9 => .object "StackKeys$Town"
  | _ => .object "StackKeys$Town"
abbrev wsX110 : List Cond := u_ws RX11 TX11 11
theorem nmX11 : ∀ a, a < 11 → ∀ b, b < 11 → a ≠ b → (TX11 a).2.1 ≠ (TX11 b).2.1 := by decide +kernel
theorem tyX11_ok : ∀ k, k < 11 → parseFieldDescriptor (TX11 k).2.2.1 = some (tyX11 k) := by decide +kernel
abbrev cX11_init : ByteArray := prog_1_method_1_code
def yX11_init : MethodName := ⟨RX11, "<init>", "()V"⟩
abbrev cX11_feed : ByteArray := prog_1_method_2_code
def yX11_feed : MethodName := ⟨RX11, "feed", "(IIIII)I"⟩
abbrev cX11_end : ByteArray := prog_1_method_3_code
def yX11_end : MethodName := ⟨RX11, "end", "(I)Z"⟩
abbrev cX11_town : ByteArray := prog_1_method_4_code
def yX11_town : MethodName := ⟨RX11, "town", "()I"⟩
abbrev cX11_fault : ByteArray := prog_1_method_5_code
def yX11_fault : MethodName := ⟨RX11, "fault", "(I)I"⟩
abbrev cX11_has : ByteArray := prog_1_method_6_code
def yX11_has : MethodName := ⟨RX11, "has", "(I)I"⟩
abbrev cX11_letter : ByteArray := prog_1_method_7_code
def yX11_letter : MethodName := ⟨RX11, "letter", "(III)I"⟩
abbrev cX11_door : ByteArray := prog_1_method_8_code
def yX11_door : MethodName := ⟨RX11, "door", "(II)I"⟩
abbrev cX11_key : ByteArray := prog_1_method_9_code
def yX11_key : MethodName := ⟨RX11, "key", "(II)I"⟩
abbrev cX11_in : ByteArray := prog_1_method_10_code
def yX11_in : MethodName := ⟨RX11, "in", "(II)I"⟩
abbrev cX11_person : ByteArray := prog_1_method_11_code
def yX11_person : MethodName := ⟨RX11, "person", "(II)I"⟩
abbrev cX11_go : ByteArray := prog_1_method_12_code
def yX11_go : MethodName := ⟨RX11, "go", "(II)I"⟩
abbrev cX11_open : ByteArray := prog_1_method_13_code
def yX11_open : MethodName := ⟨RX11, "open", "(II)I"⟩
abbrev cX11_shut : ByteArray := prog_1_method_14_code
def yX11_shut : MethodName := ⟨RX11, "shut", "(III)I"⟩
abbrev cX11_lend : ByteArray := prog_1_method_15_code
def yX11_lend : MethodName := ⟨RX11, "lend", "(III)Z"⟩
abbrev cX11_take : ByteArray := prog_1_method_16_code
def yX11_take : MethodName := ⟨RX11, "take", "(II)Z"⟩
abbrev cX11_lay : ByteArray := prog_1_method_17_code
def yX11_lay : MethodName := ⟨RX11, "lay", "(III)Z"⟩
abbrev cX11_snap : ByteArray := prog_1_method_18_code
def yX11_snap : MethodName := ⟨RX11, "snap", "(I)I"⟩
abbrev cX11_row : ByteArray := prog_1_method_19_code
def yX11_row : MethodName := ⟨RX11, "row", "()I"⟩
abbrev cX11_reach : ByteArray := prog_1_method_20_code
def yX11_reach : MethodName := ⟨RX11, "reach", "(II)I"⟩
abbrev cX11_opens : ByteArray := prog_1_method_21_code
def yX11_opens : MethodName := ⟨RX11, "opens", "(II)I"⟩
abbrev cX11_errands : ByteArray := prog_1_method_22_code
def yX11_errands : MethodName := ⟨RX11, "errands", "(I)I"⟩
abbrev cX11_lent : ByteArray := prog_1_method_23_code
def yX11_lent : MethodName := ⟨RX11, "lent", "(III)I"⟩
abbrev cX11_locked : ByteArray := prog_1_method_24_code
def yX11_locked : MethodName := ⟨RX11, "locked", "()I"⟩
abbrev cX11_can : ByteArray := prog_1_method_25_code
def yX11_can : MethodName := ⟨RX11, "can", "(II)I"⟩
abbrev cX11_needs : ByteArray := prog_1_method_26_code
def yX11_needs : MethodName := ⟨RX11, "needs", "(II)I"⟩
abbrev cX11_cross : ByteArray := prog_1_method_27_code
def yX11_cross : MethodName := ⟨RX11, "cross", "(I)I"⟩
abbrev cX11_fewest : ByteArray := prog_1_method_28_code
def yX11_fewest : MethodName := ⟨RX11, "fewest", "(I)I"⟩
abbrev cX11_order : ByteArray := prog_1_method_29_code
def yX11_order : MethodName := ⟨RX11, "order", "(I)I"⟩
abbrev cX11_trial : ByteArray := prog_1_method_30_code
def yX11_trial : MethodName := ⟨RX11, "trial", "(IZ)I"⟩
abbrev cX11_fits : ByteArray := prog_1_method_31_code
def yX11_fits : MethodName := ⟨RX11, "fits", "(I)I"⟩
abbrev cX11_would : ByteArray := prog_1_method_32_code
def yX11_would : MethodName := ⟨RX11, "would", "(I)I"⟩
abbrev cX11_unsay : ByteArray := prog_1_method_33_code
def yX11_unsay : MethodName := ⟨RX11, "unsay", "()I"⟩
abbrev cX11_round : ByteArray := prog_1_method_34_code
def yX11_round : MethodName := ⟨RX11, "round", "(II)I"⟩
abbrev cX11_image : ByteArray := prog_1_method_35_code
def yX11_image : MethodName := ⟨RX11, "image", "()I"⟩
abbrev cX11_octet : ByteArray := prog_1_method_36_code
def yX11_octet : MethodName := ⟨RX11, "octet", "(I)I"⟩
abbrev cX11_on : ByteArray := prog_1_method_37_code
def yX11_on : MethodName := ⟨RX11, "on", "()Z"⟩
abbrev cX11_status : ByteArray := prog_1_method_38_code
def yX11_status : MethodName := ⟨RX11, "status", "(I)I"⟩
abbrev cX11_refused : ByteArray := prog_1_method_39_code
def yX11_refused : MethodName := ⟨RX11, "refused", "(I)I"⟩
abbrev cX11_actAnswer : ByteArray := prog_1_method_40_code
def yX11_actAnswer : MethodName := ⟨RX11, "actAnswer", "(I)I"⟩
abbrev cX11_handingAnswer : ByteArray := prog_1_method_41_code
def yX11_handingAnswer : MethodName := ⟨RX11, "handingAnswer", "(Z)Z"⟩
abbrev cX11_firstImpossible : ByteArray := prog_1_method_42_code
def yX11_firstImpossible : MethodName := ⟨RX11, "firstImpossible", "()I"⟩
def RX12 : String := "StackKeysModel"
def TX12 : u_T := fun k => match k with
  | 0 => ("StackKeysModel", "tape", "[I", true)
  | 1 => ("StackKeysModel", "taped", "I", false)
  | 2 => ("StackKeysModel", "size", "I", false)
  | 3 => ("StackKeysModel", "sign", "I", false)
  | 4 => ("StackKeysModel", "signAt", "I", false)
  | 5 => ("StackKeysModel", "signEnd", "I", false)
  | 6 => ("StackKeysModel", "value", "I", false)
  | 7 => ("StackKeysModel", "word", "J", false)
  | 8 => ("StackKeysModel", "faultKind", "I", false)
  | 9 => ("StackKeysModel", "faultPlace", "I", false)
  | 10 => ("StackKeysModel", "toldKind", "I", false)
  | 11 => ("StackKeysModel", "toldPlace", "I", false)
  | 12 => ("StackKeysModel", "bank", "I", false)
  | 13 => ("StackKeysModel", "places", "[I", true)
  | 14 => ("StackKeysModel", "placeName", "[J", true)
  | 15 => ("StackKeysModel", "doors", "[I", true)
  | 16 => ("StackKeysModel", "doorName", "[J", true)
  | 17 => ("StackKeysModel", "doorOne", "[I", true)
  | 18 => ("StackKeysModel", "doorTwo", "[I", true)
  | 19 => ("StackKeysModel", "isBox", "[Z", true)
  | 20 => ("StackKeysModel", "minutes", "[I", true)
  | 21 => ("StackKeysModel", "isLost", "[Z", true)
  | 22 => ("StackKeysModel", "keys", "[I", true)
  | 23 => ("StackKeysModel", "keyName", "[J", true)
  | 24 => ("StackKeysModel", "keyAt", "[I", true)
  | 25 => ("StackKeysModel", "rowMany", "[I", true)
  | 26 => ("StackKeysModel", "rowOf", "[I", true)
  | 27 => ("StackKeysModel", "persons", "[I", true)
  | 28 => ("StackKeysModel", "personName", "[J", true)
  | 29 => ("StackKeysModel", "personAt", "[I", true)
  | 30 => ("StackKeysModel", "things", "[I", true)
  | 31 => ("StackKeysModel", "thingName", "[J", true)
  | 32 => ("StackKeysModel", "thingAt", "[I", true)
  | 33 => ("StackKeysModel", "wants", "[I", true)
  | 34 => ("StackKeysModel", "wantBy", "[I", true)
  | 35 => ("StackKeysModel", "wantOf", "[I", true)
  | 36 => ("StackKeysModel", "musts", "[I", true)
  | 37 => ("StackKeysModel", "mustDoor", "[I", true)
  | 38 => ("StackKeysModel", "mustFrom", "[I", true)
  | 39 => ("StackKeysModel", "mustTo", "[I", true)
  | 40 => ("StackKeysModel", "bars", "[I", true)
  | 41 => ("StackKeysModel", "barDoor", "[I", true)
  | 42 => ("StackKeysModel", "testFrom", "[I", true)
  | 43 => ("StackKeysModel", "testTo", "[I", true)
  | 44 => ("StackKeysModel", "codeSort", "[I", true)
  | 45 => ("StackKeysModel", "codeValue", "[I", true)
  | 46 => ("StackKeysModel", "codes", "I", false)
  | 47 => ("StackKeysModel", "in", "I", false)
  | 48 => ("StackKeysModel", "frame", "[I", true)
  | 49 => ("StackKeysModel", "phase", "[I", true)
  | 50 => ("StackKeysModel", "begins", "[Z", true)
  | 51 => ("StackKeysModel", "pair", "[I", true)
  | 52 => ("StackKeysModel", "base", "[I", true)
  | 53 => ("StackKeysModel", "deep", "I", false)
  | 54 => ("StackKeysModel", "open", "I", false)
  | 55 => ("StackKeysModel", "ops", "[I", true)
  | 56 => ("StackKeysModel", "opMany", "I", false)
  | 57 => ("StackKeysModel", "operand", "Z", false)
  | 58 => ("StackKeysModel", "refused", "[I", true)
  | 59 => ("StackKeysModel", "heap", "[J", true)
  | 60 => ("StackKeysModel", "moment", "[I", true)
  | 61 => ("StackKeysModel", "wasAt", "[I", true)
  | 62 => ("StackKeysModel", "wasMany", "[I", true)
  | 63 => ("StackKeysModel", "wasRow", "[I", true)
  | 64 => ("StackKeysModel", "acts", "[I", true)
  | 65 => ("StackKeysModel", "queue", "[I", true)
  | 66 => ("StackKeysModel", "queued", "I", false)
  | 67 => ("StackKeysModel", "spot", "I", false)
  | 68 => ("StackKeysModel", "depthOf", "[I", true)
  | 69 => ("StackKeysModel", "had", "I", false)
  | 70 => ("StackKeysModel", "mover", "I", false)
  | 71 => ("StackKeysModel", "own", "I", false)
  | 72 => ("StackKeysModel", "wanted", "[I", true)
  | 73 => ("StackKeysModel", "wantedMany", "I", false)
  | 74 => ("StackKeysModel", "keyOf", "[I", true)
  | 75 => ("StackKeysModel", "trials", "I", false)
  | 76 => ("StackKeysModel", "triedAt", "[I", true)
  | 77 => ("StackKeysModel", "triedOpen", "[Z", true)
  | 78 => ("StackKeysModel", "foundMany", "I", false)
  | 79 => ("StackKeysModel", "found", "[I", true)
  | 80 => ("StackKeysModel", "left", "I", false)
  | 81 => ("StackKeysModel", "between", "[I", true)
  | 82 => ("StackKeysModel", "watch", "[I", true)
  | 83 => ("StackKeysModel", "out", "[I", true)
  | _ => ("StackKeysModel", "outs", "I", false)
def tyX12 : Nat → FieldType := fun k => match k with
  | 0 => .array .int
  | 1 => .int
  | 2 => .int
  | 3 => .int
  | 4 => .int
  | 5 => .int
  | 6 => .int
  | 7 => .long
  | 8 => .int
  | 9 => .int
  | 10 => .int
  | 11 => .int
  | 12 => .int
  | 13 => .array .int
  | 14 => .array .long
  | 15 => .array .int
  | 16 => .array .long
  | 17 => .array .int
  | 18 => .array .int
  | 19 => .array .boolean
  | 20 => .array .int
  | 21 => .array .boolean
  | 22 => .array .int
  | 23 => .array .long
  | 24 => .array .int
  | 25 => .array .int
  | 26 => .array .int
  | 27 => .array .int
  | 28 => .array .long
  | 29 => .array .int
  | 30 => .array .int
  | 31 => .array .long
  | 32 => .array .int
  | 33 => .array .int
  | 34 => .array .int
  | 35 => .array .int
  | 36 => .array .int
  | 37 => .array .int
  | 38 => .array .int
  | 39 => .array .int
  | 40 => .array .int
  | 41 => .array .int
  | 42 => .array .int
  | 43 => .array .int
  | 44 => .array .int
  | 45 => .array .int
  | 46 => .int
  | 47 => .int
  | 48 => .array .int
  | 49 => .array .int
  | 50 => .array .boolean
  | 51 => .array .int
  | 52 => .array .int
  | 53 => .int
  | 54 => .int
  | 55 => .array .int
  | 56 => .int
  | 57 => .boolean
  | 58 => .array .int
  | 59 => .array .long
  | 60 => .array .int
  | 61 => .array .int
  | 62 => .array .int
  | 63 => .array .int
  | 64 => .array .int
  | 65 => .array .int
  | 66 => .int
  | 67 => .int
  | 68 => .array .int
  | 69 => .int
  | 70 => .int
  | 71 => .int
  | 72 => .array .int
  | 73 => .int
  | 74 => .array .int
  | 75 => .int
  | 76 => .array .int
  | 77 => .array .boolean
  | 78 => .int
  | 79 => .array .int
  | 80 => .int
  | 81 => .array .int
  | 82 => .array .int
  | 83 => .array .int
  | _ => .int
abbrev wsX120 : List Cond := u_ws RX12 TX12 85
theorem nmX12 : ∀ a, a < 85 → ∀ b, b < 85 → a ≠ b → (TX12 a).2.1 ≠ (TX12 b).2.1 := by decide +kernel
theorem tyX12_ok : ∀ k, k < 85 → parseFieldDescriptor (TX12 k).2.2.1 = some (tyX12 k) := by decide +kernel
abbrev cX12_init : ByteArray := prog_14_method_1_code
def yX12_init : MethodName := ⟨RX12, "<init>", "()V"⟩
abbrev cX12_is : ByteArray := prog_14_method_2_code
def yX12_is : MethodName := ⟨RX12, "is", "(III)Z"⟩
abbrev cX12_put : ByteArray := prog_14_method_3_code
def yX12_put : MethodName := ⟨RX12, "put", "(I)V"⟩
abbrev cX12_feed : ByteArray := prog_14_method_4_code
def yX12_feed : MethodName := ⟨RX12, "feed", "(IIIII)I"⟩
abbrev cX12_end : ByteArray := prog_14_method_5_code
def yX12_end : MethodName := ⟨RX12, "end", "(I)Z"⟩
abbrev cX12_blame : ByteArray := prog_14_method_6_code
def yX12_blame : MethodName := ⟨RX12, "blame", "(II)V"⟩
abbrev cX12_isLetter : ByteArray := prog_14_method_7_code
def yX12_isLetter : MethodName := ⟨RX12, "isLetter", "(I)Z"⟩
abbrev cX12_isDigit : ByteArray := prog_14_method_8_code
def yX12_isDigit : MethodName := ⟨RX12, "isDigit", "(I)Z"⟩
abbrev cX12_ahead : ByteArray := prog_14_method_9_code
def yX12_ahead : MethodName := ⟨RX12, "ahead", "()V"⟩
abbrev cX12_isSign : ByteArray := prog_14_method_10_code
def yX12_isSign : MethodName := ⟨RX12, "isSign", "(I)Z"⟩
abbrev cX12_isWord : ByteArray := prog_14_method_11_code
def yX12_isWord : MethodName := ⟨RX12, "isWord", "(J)Z"⟩
abbrev cX12_must : ByteArray := prog_14_method_12_code
def yX12_must : MethodName := ⟨RX12, "must", "(I)V"⟩
abbrev cX12_isOwn : ByteArray := prog_14_method_13_code
def yX12_isOwn : MethodName := ⟨RX12, "isOwn", "(J)Z"⟩
abbrev cX12_named : ByteArray := prog_14_method_14_code
def yX12_named : MethodName := ⟨RX12, "named", "(IJ)I"⟩
abbrev cX12_nameOf : ByteArray := prog_14_method_15_code
def yX12_nameOf : MethodName := ⟨RX12, "nameOf", "(III)J"⟩
abbrev cX12_number : ByteArray := prog_14_method_16_code
def yX12_number : MethodName := ⟨RX12, "number", "(II)I"⟩
abbrev cX12_add : ByteArray := prog_14_method_17_code
def yX12_add : MethodName := ⟨RX12, "add", "(II)V"⟩
abbrev cX12_rank : ByteArray := prog_14_method_18_code
def yX12_rank : MethodName := ⟨RX12, "rank", "(I)I"⟩
abbrev cX12_joins : ByteArray := prog_14_method_19_code
def yX12_joins : MethodName := ⟨RX12, "joins", "(I)V"⟩
abbrev cX12_holdsBack : ByteArray := prog_14_method_20_code
def yX12_holdsBack : MethodName := ⟨RX12, "holdsBack", "(I)V"⟩
abbrev cX12_pushes : ByteArray := prog_14_method_21_code
def yX12_pushes : MethodName := ⟨RX12, "pushes", "(I)V"⟩
abbrev cX12_opens : ByteArray := prog_14_method_22_code
def yX12_opens : MethodName := ⟨RX12, "opens", "(I)V"⟩
abbrev cX12_isTest : ByteArray := prog_14_method_23_code
def yX12_isTest : MethodName := ⟨RX12, "isTest", "(I)Z"⟩
abbrev cX12_operand : ByteArray := prog_14_method_24_code
def yX12_operand : MethodName := ⟨RX12, "operand", "()Z"⟩
abbrev cX12_goesOn : ByteArray := prog_14_method_25_code
def yX12_goesOn : MethodName := ⟨RX12, "goesOn", "()Z"⟩
abbrev cX12_reads : ByteArray := prog_14_method_26_code
def yX12_reads : MethodName := ⟨RX12, "reads", "(Z)V"⟩
abbrev cX12_counts : ByteArray := prog_14_method_27_code
def yX12_counts : MethodName := ⟨RX12, "counts", "(Z)Z"⟩
abbrev cX12_must_ : ByteArray := prog_14_method_28_code
def yX12_must_ : MethodName := ⟨RX12, "must", "(J)V"⟩
abbrev cX12_fresh : ByteArray := prog_14_method_29_code
def yX12_fresh : MethodName := ⟨RX12, "fresh", "()J"⟩
abbrev cX12_asked : ByteArray := prog_14_method_30_code
def yX12_asked : MethodName := ⟨RX12, "asked", "(I)I"⟩
abbrev cX12_bars : ByteArray := prog_14_method_31_code
def yX12_bars : MethodName := ⟨RX12, "bars", "(II)V"⟩
abbrev cX12_place : ByteArray := prog_14_method_32_code
def yX12_place : MethodName := ⟨RX12, "place", "()V"⟩
abbrev cX12_door : ByteArray := prog_14_method_33_code
def yX12_door : MethodName := ⟨RX12, "door", "(Z)V"⟩
abbrev cX12_within : ByteArray := prog_14_method_34_code
def yX12_within : MethodName := ⟨RX12, "within", "()I"⟩
abbrev cX12_key : ByteArray := prog_14_method_35_code
def yX12_key : MethodName := ⟨RX12, "key", "()V"⟩
abbrev cX12_person : ByteArray := prog_14_method_36_code
def yX12_person : MethodName := ⟨RX12, "person", "()V"⟩
abbrev cX12_having : ByteArray := prog_14_method_37_code
def yX12_having : MethodName := ⟨RX12, "having", "()V"⟩
abbrev cX12_isInRow : ByteArray := prog_14_method_38_code
def yX12_isInRow : MethodName := ⟨RX12, "isInRow", "(II)Z"⟩
abbrev cX12_shutting : ByteArray := prog_14_method_39_code
def yX12_shutting : MethodName := ⟨RX12, "shutting", "()V"⟩
abbrev cX12_losing : ByteArray := prog_14_method_40_code
def yX12_losing : MethodName := ⟨RX12, "losing", "()V"⟩
abbrev cX12_thing : ByteArray := prog_14_method_41_code
def yX12_thing : MethodName := ⟨RX12, "thing", "()V"⟩
abbrev cX12_wanting : ByteArray := prog_14_method_42_code
def yX12_wanting : MethodName := ⟨RX12, "wanting", "()V"⟩
abbrev cX12_mustBe : ByteArray := prog_14_method_43_code
def yX12_mustBe : MethodName := ⟨RX12, "mustBe", "()V"⟩
abbrev cX12_barring : ByteArray := prog_14_method_44_code
def yX12_barring : MethodName := ⟨RX12, "barring", "()V"⟩
abbrev cX12_statement : ByteArray := prog_14_method_45_code
def yX12_statement : MethodName := ⟨RX12, "statement", "()V"⟩
abbrev cX12_others : ByteArray := prog_14_method_46_code
def yX12_others : MethodName := ⟨RX12, "others", "()V"⟩
abbrev cX12_town : ByteArray := prog_14_method_47_code
def yX12_town : MethodName := ⟨RX12, "town", "()I"⟩
abbrev cX12_fault : ByteArray := prog_14_method_48_code
def yX12_fault : MethodName := ⟨RX12, "fault", "(I)I"⟩
abbrev cX12_refuses : ByteArray := prog_14_method_49_code
def yX12_refuses : MethodName := ⟨RX12, "refuses", "(I)I"⟩
abbrev cX12_status : ByteArray := prog_14_method_50_code
def yX12_status : MethodName := ⟨RX12, "status", "(I)I"⟩
abbrev cX12_bounded : ByteArray := prog_14_method_51_code
def yX12_bounded : MethodName := ⟨RX12, "bounded", "(J)J"⟩
abbrev cX12_over : ByteArray := prog_14_method_52_code
def yX12_over : MethodName := ⟨RX12, "over", "(JJ)J"⟩
abbrev cX12_made : ByteArray := prog_14_method_53_code
def yX12_made : MethodName := ⟨RX12, "made", "(IJJ)J"⟩
abbrev cX12_works : ByteArray := prog_14_method_54_code
def yX12_works : MethodName := ⟨RX12, "works", "(II)J"⟩
abbrev cX12_isPlace : ByteArray := prog_14_method_55_code
def yX12_isPlace : MethodName := ⟨RX12, "isPlace", "(I)Z"⟩
abbrev cX12_isDoor : ByteArray := prog_14_method_56_code
def yX12_isDoor : MethodName := ⟨RX12, "isDoor", "(I)Z"⟩
abbrev cX12_isKey : ByteArray := prog_14_method_57_code
def yX12_isKey : MethodName := ⟨RX12, "isKey", "(I)Z"⟩
abbrev cX12_isPerson : ByteArray := prog_14_method_58_code
def yX12_isPerson : MethodName := ⟨RX12, "isPerson", "(I)Z"⟩
abbrev cX12_key4 : ByteArray := prog_14_method_59_code
def yX12_key4 : MethodName := ⟨RX12, "key4", "(I)I"⟩
abbrev cX12_door10 : ByteArray := prog_14_method_60_code
def yX12_door10 : MethodName := ⟨RX12, "door10", "(I)I"⟩
abbrev cX12_inRow : ByteArray := prog_14_method_61_code
def yX12_inRow : MethodName := ⟨RX12, "inRow", "(II)Z"⟩
abbrev cX12_topOf : ByteArray := prog_14_method_62_code
def yX12_topOf : MethodName := ⟨RX12, "topOf", "(I)I"⟩
abbrev cX12_isShut : ByteArray := prog_14_method_63_code
def yX12_isShut : MethodName := ⟨RX12, "isShut", "(I)Z"⟩
abbrev cX12_isDead : ByteArray := prog_14_method_64_code
def yX12_isDead : MethodName := ⟨RX12, "isDead", "(I)Z"⟩
abbrev cX12_closedAll : ByteArray := prog_14_method_65_code
def yX12_closedAll : MethodName := ⟨RX12, "closedAll", "()I"⟩
abbrev cX12_has : ByteArray := prog_14_method_66_code
def yX12_has : MethodName := ⟨RX12, "has", "(I)I"⟩
abbrev cX12_manyOf : ByteArray := prog_14_method_67_code
def yX12_manyOf : MethodName := ⟨RX12, "manyOf", "(I)I"⟩
abbrev cX12_letter : ByteArray := prog_14_method_68_code
def yX12_letter : MethodName := ⟨RX12, "letter", "(III)I"⟩
abbrev cX12_door_ : ByteArray := prog_14_method_69_code
def yX12_door_ : MethodName := ⟨RX12, "door", "(II)I"⟩
abbrev cX12_key_ : ByteArray := prog_14_method_70_code
def yX12_key_ : MethodName := ⟨RX12, "key", "(II)I"⟩
abbrev cX12_in : ByteArray := prog_14_method_71_code
def yX12_in : MethodName := ⟨RX12, "in", "(II)I"⟩
abbrev cX12_placeOf : ByteArray := prog_14_method_72_code
def yX12_placeOf : MethodName := ⟨RX12, "placeOf", "(I)I"⟩
abbrev cX12_keysOf : ByteArray := prog_14_method_73_code
def yX12_keysOf : MethodName := ⟨RX12, "keysOf", "(I)I"⟩
abbrev cX12_bitsOf : ByteArray := prog_14_method_74_code
def yX12_bitsOf : MethodName := ⟨RX12, "bitsOf", "(I)I"⟩
abbrev cX12_isAt : ByteArray := prog_14_method_75_code
def yX12_isAt : MethodName := ⟨RX12, "isAt", "(II)Z"⟩
abbrev cX12_isBarred : ByteArray := prog_14_method_76_code
def yX12_isBarred : MethodName := ⟨RX12, "isBarred", "(IIIII)Z"⟩
abbrev cX12_otherSide : ByteArray := prog_14_method_77_code
def yX12_otherSide : MethodName := ⟨RX12, "otherSide", "(II)I"⟩
abbrev cX12_gone : ByteArray := prog_14_method_78_code
def yX12_gone : MethodName := ⟨RX12, "gone", "(II)I"⟩
abbrev cX12_opened : ByteArray := prog_14_method_79_code
def yX12_opened : MethodName := ⟨RX12, "opened", "(II)I"⟩
abbrev cX12_closed : ByteArray := prog_14_method_80_code
def yX12_closed : MethodName := ⟨RX12, "closed", "(III)I"⟩
abbrev cX12_go : ByteArray := prog_14_method_81_code
def yX12_go : MethodName := ⟨RX12, "go", "(II)I"⟩
abbrev cX12_open : ByteArray := prog_14_method_82_code
def yX12_open : MethodName := ⟨RX12, "open", "(II)I"⟩
abbrev cX12_shut : ByteArray := prog_14_method_83_code
def yX12_shut : MethodName := ⟨RX12, "shut", "(III)I"⟩
abbrev cX12_lend : ByteArray := prog_14_method_84_code
def yX12_lend : MethodName := ⟨RX12, "lend", "(III)Z"⟩
abbrev cX12_isOpenBox : ByteArray := prog_14_method_85_code
def yX12_isOpenBox : MethodName := ⟨RX12, "isOpenBox", "(II)Z"⟩
abbrev cX12_take : ByteArray := prog_14_method_86_code
def yX12_take : MethodName := ⟨RX12, "take", "(II)Z"⟩
abbrev cX12_lay : ByteArray := prog_14_method_87_code
def yX12_lay : MethodName := ⟨RX12, "lay", "(III)Z"⟩
abbrev cX12_snap : ByteArray := prog_14_method_88_code
def yX12_snap : MethodName := ⟨RX12, "snap", "(I)I"⟩
abbrev cX12_notes : ByteArray := prog_14_method_89_code
def yX12_notes : MethodName := ⟨RX12, "notes", "()V"⟩
abbrev cX12_back : ByteArray := prog_14_method_90_code
def yX12_back : MethodName := ⟨RX12, "back", "()V"⟩
abbrev cX12_firstKey : ByteArray := prog_14_method_91_code
def yX12_firstKey : MethodName := ⟨RX12, "firstKey", "(II)I"⟩
abbrev cX12_told : ByteArray := prog_14_method_92_code
def yX12_told : MethodName := ⟨RX12, "told", "(III)I"⟩
abbrev cX12_row : ByteArray := prog_14_method_93_code
def yX12_row : MethodName := ⟨RX12, "row", "()I"⟩
abbrev cX12_state : ByteArray := prog_14_method_94_code
def yX12_state : MethodName := ⟨RX12, "state", "()I"⟩
abbrev cX12_takes : ByteArray := prog_14_method_95_code
def yX12_takes : MethodName := ⟨RX12, "takes", "(I)V"⟩
abbrev cX12_isClosed : ByteArray := prog_14_method_96_code
def yX12_isClosed : MethodName := ⟨RX12, "isClosed", "(I)Z"⟩
abbrev cX12_closedNow : ByteArray := prog_14_method_97_code
def yX12_closedNow : MethodName := ⟨RX12, "closedNow", "()I"⟩
abbrev cX12_haves : ByteArray := prog_14_method_98_code
def yX12_haves : MethodName := ⟨RX12, "haves", "()V"⟩
abbrev cX12_comes : ByteArray := prog_14_method_99_code
def yX12_comes : MethodName := ⟨RX12, "comes", "(I)V"⟩
abbrev cX12_searches : ByteArray := prog_14_method_100_code
def yX12_searches : MethodName := ⟨RX12, "searches", "(IIZ)V"⟩
abbrev cX12_goesOn_ : ByteArray := prog_14_method_101_code
def yX12_goesOn_ : MethodName := ⟨RX12, "goesOn", "(I)V"⟩
abbrev cX12_actsTo : ByteArray := prog_14_method_102_code
def yX12_actsTo : MethodName := ⟨RX12, "actsTo", "(I)I"⟩
abbrev cX12_placesOf : ByteArray := prog_14_method_103_code
def yX12_placesOf : MethodName := ⟨RX12, "placesOf", "(I)I"⟩
abbrev cX12_person_ : ByteArray := prog_14_method_104_code
def yX12_person_ : MethodName := ⟨RX12, "person", "(II)I"⟩
abbrev cX12_reach : ByteArray := prog_14_method_105_code
def yX12_reach : MethodName := ⟨RX12, "reach", "(II)I"⟩
abbrev cX12_opens_ : ByteArray := prog_14_method_106_code
def yX12_opens_ : MethodName := ⟨RX12, "opens", "(II)I"⟩
abbrev cX12_errands : ByteArray := prog_14_method_107_code
def yX12_errands : MethodName := ⟨RX12, "errands", "(I)I"⟩
abbrev cX12_lent : ByteArray := prog_14_method_108_code
def yX12_lent : MethodName := ⟨RX12, "lent", "(III)I"⟩
abbrev cX12_isLockedIn : ByteArray := prog_14_method_109_code
def yX12_isLockedIn : MethodName := ⟨RX12, "isLockedIn", "(I)Z"⟩
abbrev cX12_locked : ByteArray := prog_14_method_110_code
def yX12_locked : MethodName := ⟨RX12, "locked", "()I"⟩
abbrev cX12_canOpen : ByteArray := prog_14_method_111_code
def yX12_canOpen : MethodName := ⟨RX12, "canOpen", "(II)Z"⟩
abbrev cX12_can : ByteArray := prog_14_method_112_code
def yX12_can : MethodName := ⟨RX12, "can", "(II)I"⟩
abbrev cX12_needs : ByteArray := prog_14_method_113_code
def yX12_needs : MethodName := ⟨RX12, "needs", "(II)I"⟩
abbrev cX12_crosses : ByteArray := prog_14_method_114_code
def yX12_crosses : MethodName := ⟨RX12, "crosses", "(II)Z"⟩
abbrev cX12_cross : ByteArray := prog_14_method_115_code
def yX12_cross : MethodName := ⟨RX12, "cross", "(I)I"⟩
abbrev cX12_may : ByteArray := prog_14_method_116_code
def yX12_may : MethodName := ⟨RX12, "may", "(I)Z"⟩
abbrev cX12_fits8 : ByteArray := prog_14_method_117_code
def yX12_fits8 : MethodName := ⟨RX12, "fits8", "(I)Z"⟩
abbrev cX12_fewest : ByteArray := prog_14_method_118_code
def yX12_fewest : MethodName := ⟨RX12, "fewest", "(I)I"⟩
abbrev cX12_isAhead : ByteArray := prog_14_method_119_code
def yX12_isAhead : MethodName := ⟨RX12, "isAhead", "(II)Z"⟩
abbrev cX12_order : ByteArray := prog_14_method_120_code
def yX12_order : MethodName := ⟨RX12, "order", "(I)I"⟩
abbrev cX12_agrees : ByteArray := prog_14_method_121_code
def yX12_agrees : MethodName := ⟨RX12, "agrees", "()Z"⟩
abbrev cX12_isRow : ByteArray := prog_14_method_122_code
def yX12_isRow : MethodName := ⟨RX12, "isRow", "(II)Z"⟩
abbrev cX12_fitting : ByteArray := prog_14_method_123_code
def yX12_fitting : MethodName := ⟨RX12, "fitting", "(I)I"⟩
abbrev cX12_trial : ByteArray := prog_14_method_124_code
def yX12_trial : MethodName := ⟨RX12, "trial", "(IZ)I"⟩
abbrev cX12_fits : ByteArray := prog_14_method_125_code
def yX12_fits : MethodName := ⟨RX12, "fits", "(I)I"⟩
abbrev cX12_would : ByteArray := prog_14_method_126_code
def yX12_would : MethodName := ⟨RX12, "would", "(I)I"⟩
abbrev cX12_unsay : ByteArray := prog_14_method_127_code
def yX12_unsay : MethodName := ⟨RX12, "unsay", "()I"⟩
abbrev cX12_ways : ByteArray := prog_14_method_128_code
def yX12_ways : MethodName := ⟨RX12, "ways", "()V"⟩
abbrev cX12_round : ByteArray := prog_14_method_129_code
def yX12_round : MethodName := ⟨RX12, "round", "(II)I"⟩
abbrev cX12_writes : ByteArray := prog_14_method_130_code
def yX12_writes : MethodName := ⟨RX12, "writes", "(I)V"⟩
abbrev cX12_image : ByteArray := prog_14_method_131_code
def yX12_image : MethodName := ⟨RX12, "image", "()I"⟩
abbrev cX12_octet : ByteArray := prog_14_method_132_code
def yX12_octet : MethodName := ⟨RX12, "octet", "(I)I"⟩
abbrev cX12_mayBeAt : ByteArray := prog_14_method_133_code
def yX12_mayBeAt : MethodName := ⟨RX12, "mayBeAt", "(I)Z"⟩
abbrev cX12_isRowAt : ByteArray := prog_14_method_134_code
def yX12_isRowAt : MethodName := ⟨RX12, "isRowAt", "(II)Z"⟩
abbrev cX12_isWhole : ByteArray := prog_14_method_135_code
def yX12_isWhole : MethodName := ⟨RX12, "isWhole", "(I)Z"⟩
abbrev cX12_on : ByteArray := prog_14_method_136_code
def yX12_on : MethodName := ⟨RX12, "on", "()Z"⟩
def RJ6 : String := "java/lang/Integer"
abbrev cJ6_bitCount_0f7a4 : ByteArray := prog_15_method_49_code
def yJ6_bitCount_0f7a4 : MethodName := ⟨RJ6, "bitCount", "(I)I"⟩
def RJ9 : String := "java/lang/Math"
abbrev cJ9_floorDiv_7cf53 : ByteArray := prog_16_method_47_code
def yJ9_floorDiv_7cf53 : MethodName := ⟨RJ9, "floorDiv", "(II)I"⟩
abbrev cJ9_floorMod_7cf53 : ByteArray := prog_16_method_50_code
def yJ9_floorMod_7cf53 : MethodName := ⟨RJ9, "floorMod", "(II)I"⟩
def RJ0 : String := "java/lang/String"
abbrev cJ0_length_8abf5 : ByteArray := prog_17_method_54_code
def yJ0_length_8abf5 : MethodName := ⟨RJ0, "length", "()I"⟩
abbrev cJ0_charAt_5068e : ByteArray := prog_17_method_56_code
def yJ0_charAt_5068e : MethodName := ⟨RJ0, "charAt", "(I)C"⟩
abbrev cJ0_coder_7d493 : ByteArray := prog_17_method_152_code
def yJ0_coder_7d493 : MethodName := ⟨RJ0, "coder", "()B"⟩
abbrev cJ0_isLatin1_aae02 : ByteArray := prog_17_method_154_code
def yJ0_isLatin1_aae02 : MethodName := ⟨RJ0, "isLatin1", "()Z"⟩
abbrev cJ0_checkIndex_df160 : ByteArray := prog_17_method_155_code
def yJ0_checkIndex_df160 : MethodName := ⟨RJ0, "checkIndex", "(II)V"⟩
def RJ1 : String := "java/lang/StringLatin1"
abbrev cJ1_charAt_3b067 : ByteArray := prog_18_method_2_code
def yJ1_charAt_3b067 : MethodName := ⟨RJ1, "charAt", "([BI)C"⟩
def RJ3 : String := "jdk/internal/util/Preconditions"
abbrev cJ3_checkIndex_8e157 : ByteArray := prog_20_method_11_code
def yJ3_checkIndex_8e157 : MethodName := ⟨RJ3, "checkIndex", "(IILjava/util/function/BiFunction;)I"⟩
def RL : String := "StackKeysLaw"
abbrev cL_law : ByteArray := code
abbrev vwCl : List vw_C := [(RX0, TX0, 17), (RX1, TX1, 8), (RX2, TX2, 1), (RX3, TX3, 7), (RX4, TX4, 3), (RX5, TX5, 5), (RX6, TX6, 4), (RX7, TX7, 2), (RX8, TX8, 3), (RX9, TX9, 16), (RX10, TX10, 2), (RX11, TX11, 11), (RX12, TX12, 85)]
