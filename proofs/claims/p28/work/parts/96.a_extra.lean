theorem aoa_spec {t : FieldType} {s : State} (h : va_AOA t s) : ∃ comp c k, s.vm.findClass (FieldType.array t).toString = some comp ∧ (s.vm.classes.findIdx? fun (x : Class) => match x.kind with | .array component _ => component == comp | _ => false) = some c ∧ s.vm.classes[c]? = some k ∧ k.kind = .array comp (.array t) ∧ s.vm.findClass ("[" ++ (FieldType.array t).toString) = some c := by
  unfold va_AOA Cond.before at h
  simp only [Cond.holds, Cond.value, beq_iff_eq] at h
  cases hc : s.vm.findClass (FieldType.array t).toString with
  | none => simp [hc] at h
  | some comp =>
    simp only [hc, Option.bind_some, Option.bind_eq_some_iff, Option.map_eq_some_iff] at h
    obtain ⟨c, hi, k, hk, hb⟩ := h
    obtain ⟨hlt, hp, -⟩ := Array.findIdx?_eq_some_iff_getElem.mp hi
    have hkk : s.vm.classes[c] = k := (Array.getElem?_eq_some_iff.mp hk).2
    rw [hkk] at hp
    cases hkind : k.kind with
    | array component ty =>
      rw [hkind] at hb hp
      simp at hb hp
      exact ⟨comp, c, k, rfl, hi, hk, by rw [hkind, hp, hb.1], hb.2⟩
    | _ => rw [hkind] at hb; simp at hb
theorem va_AOA.moved {t : FieldType} {u U : State} (hvm : u.vm.Alike U.vm) (h : va_AOA t u) : va_AOA t U := by
  obtain ⟨comp, c, k, h1, h2, h3, h4, h5⟩ := aoa_spec h
  obtain ⟨k', hk', he⟩ := hvm.2.2 _ _ h3
  have hi : (U.vm.classes.findIdx? fun (x : Class) => match x.kind with | .array component _ => component == comp | _ => false) = some c := by
    have h6 := va_idx_bare U.vm comp
    have h7 := va_idx_bare u.vm comp
    have eb : U.vm.bare = u.vm.bare := by first | exact hvm.bare_eq.symm | exact hvm.bare_eq
    rw [eb] at h6
    exact h6.symm.trans (h7.trans h2)
  have hkind : k'.kind = .array comp (.array t) := by rw [he]; exact h4
  have f1 : U.vm.findClass (FieldType.array t).toString = some comp := by rw [hvm.findClass]; exact h1
  have f2 : U.vm.findClass ("[" ++ (FieldType.array t).toString) = some c := by rw [hvm.findClass]; exact h5
  unfold va_AOA Cond.before Cond.holds
  simp only [Cond.value]
  rw [f1, Option.bind_some]
  refine (congrArg (fun o : Option Nat => (o.bind (fun c => (U.vm.classes[c]?).map fun (k : Class) => match k.kind with | .array _ ty => decide (ty = FieldType.array t) && decide (U.vm.findClass ("[" ++ (FieldType.array t).toString) = some c) | _ => false) == some true)) hi).trans ?_
  simp [hk', hkind, f2]
def exN (U : State) : Prop := va_Nw (.methodLinkNest RX11 9 yX7_init "StackKeys") U ∧ va_Nw (.methodLinkNest RX11 27 yX0_init "StackKeys") U ∧ va_Nw (.methodLinkNest RX11 34 yX2_init "StackKeys") U ∧ va_Nw (.methodLinkNest RX11 41 yX1_init "StackKeys") U ∧ va_Nw (.methodLinkNest RX11 48 yX10_init "StackKeys") U ∧ va_Nw (.methodLinkNest RX11 55 yX4_init "StackKeys") U ∧ va_Nw (.methodLinkNest RX4 17 yX6_init "StackKeys") U ∧ va_Nw (.methodLinkNest RX11 62 yX6_init "StackKeys") U ∧ va_Nw (.methodLinkNest RX11 73 yX9_init "StackKeys") U ∧ va_Nw (.methodLinkNest RX9 55 yX8_init "StackKeys") U ∧ va_Nw (.methodLinkNest RX9 62 yX6_init "StackKeys") U ∧ va_AOA .int U
theorem exN.warm {s U : State} (hW : s.WarmedH U.vm) (h : exN s) : exN U := by
  obtain ⟨h0, h1, h2, h3, h4, h5, h6, h7, h8, h9, h10, ha⟩ := h
  exact ⟨va_Nw.warmM hW h0, va_Nw.warmM hW h1, va_Nw.warmM hW h2, va_Nw.warmM hW h3, va_Nw.warmM hW h4, va_Nw.warmM hW h5, va_Nw.warmM hW h6, va_Nw.warmM hW h7, va_Nw.warmM hW h8, va_Nw.warmM hW h9, va_Nw.warmM hW h10, va_AOA.moved hW.alike ha⟩
theorem exN.same {u U : State} (hv : u.vm = U.vm) (h : exN u) : exN U := by
  obtain ⟨h0, h1, h2, h3, h4, h5, h6, h7, h8, h9, h10, ha⟩ := h
  exact ⟨va_Nw.same rfl hv h0, va_Nw.same rfl hv h1, va_Nw.same rfl hv h2, va_Nw.same rfl hv h3, va_Nw.same rfl hv h4, va_Nw.same rfl hv h5, va_Nw.same rfl hv h6, va_Nw.same rfl hv h7, va_Nw.same rfl hv h8, va_Nw.same rfl hv h9, va_Nw.same rfl hv h10, va_AOA.moved (hv ▸ Vm.Alike.refl u.vm) ha⟩
def ownText : String := "place door box key person thing wants must bar has shut lost at in by when or and not all who spot keys closed min max "
def ownBytes : List Int32 := [112, 108, 97, 99, 101, 32, 100, 111, 111, 114, 32, 98, 111, 120, 32, 107, 101, 121, 32, 112, 101, 114, 115, 111, 110, 32, 116, 104, 105, 110, 103, 32, 119, 97, 110, 116, 115, 32, 109, 117, 115, 116, 32, 98, 97, 114, 32, 104, 97, 115, 32, 115, 104, 117, 116, 32, 108, 111, 115, 116, 32, 97, 116, 32, 105, 110, 32, 98, 121, 32, 119, 104, 101, 110, 32, 111, 114, 32, 97, 110, 100, 32, 110, 111, 116, 32, 97, 108, 108, 32, 119, 104, 111, 32, 115, 112, 111, 116, 32, 107, 101, 121, 115, 32, 99, 108, 111, 115, 101, 100, 32, 109, 105, 110, 32, 109, 97, 120, 32]
def exS (aK aV : Nat) (A : Nat → Prop) (U : State) : Prop := vk_R RX5 34 ownText aK U ∧ vk_S 1 [119] [ownBytes] (fun _ => aK) (fun _ => aV) A U U.heap ∧ va_Z "java/lang/String" "COMPACT_STRINGS" "Z" (.int 1) A U U.heap ∧ va_Zq "jdk/internal/util/Preconditions" "SIOOBE_FORMATTER" "Ljava/util/function/BiFunction;" A U U.heap
theorem exS.same {aK aV : Nat} {A : Nat → Prop} {u U : State} (hv : U.vm = u.vm) (hh : U.heap = u.heap) (h : exS aK aV A u) : exS aK aV A U := by
  obtain ⟨h1, h2, h3, h4⟩ := h
  have hal : u.vm.Alike U.vm := hv ▸ Vm.Alike.refl u.vm
  refine ⟨h1.same hv, ?_, ?_, ?_⟩
  · rw [hh]; exact h2.moved hal
  · rw [hh]; exact h3.moved hal
  · rw [hh]; exact h4.moved hal
theorem exS.call {aK aV : Nat} {A A1 : Nat → Prop} {s U : State} {H : Heap} {locs : List Loc} (h : exS aK aV A s) (hW : s.WarmedH U.vm) (hU : U.heap = H) (hS : va_S A s.heap H locs) (hF : ∀ q, A1 q → A q) : exS aK aV A1 U := by
  obtain ⟨h1, h2, h3, h4⟩ := h
  refine ⟨h1.warm hW, ?_, ?_, ?_⟩
  · rw [hU]; exact ((h2.moved hW.alike).kept hS.2.1).narrow hF
  · rw [hU]; exact ((h3.moved hW.alike).kept hS.2.1).narrow hF
  · rw [hU]; exact ((h4.moved hW.alike).kept hS.2.1).narrow hF
/-! The class's own words, letter by letter out of their text. -/
def oc (n : Nat) : Int32 := ((ownBytes.getD n 0 &&& 255).toUInt32 % 65536).toInt32
def ost : Nat → Int32 × Int32 × List Int32
  | 0 => (0, 0, List.replicate 26 0)
  | n + 1 => bif oc n == 32 then ((ost n).1 + 1, 0, (ost n).2.2) else ((ost n).1, (ost n).2.1 + 1, (ost n).2.2.set (ost n).1.toNatClampNeg ((ost n).2.2.getD (ost n).1.toNatClampNeg 0 ||| (oc n - 96) <<< ((5 * (ost n).2.1) &&& 31)))
def OWf (f : Nat → Int32) : Prop := ∀ k : Nat, k < 26 → f k = iI (own5 k)
def HO (i w z : Int32) (f : Nat → Int32) : Prop := (ost i.toInt.toNat).1 = w ∧ (ost i.toInt.toNat).2.1 = z ∧ ∀ k : Nat, f k = (ost i.toInt.toNat).2.2.getD k 0
set_option maxRecDepth 100000 in
theorem ost_own : ∀ k : Fin 26, (ost 119).2.2.getD k.val 0 = iI (own5 k.val) := by decide +kernel
set_option maxRecDepth 100000 in
theorem ost_w : ∀ n : Fin 119, (ost n.val).1.toInt < 26 := by decide +kernel
theorem ost_len : ∀ n, (ost n).2.2.length = 26
  | 0 => rfl
  | n + 1 => by
    unfold ost
    cases oc n == 32 with
    | true => exact ost_len n
    | false =>
      show ((ost n).2.2.set _ _).length = 26
      rw [List.length_set]
      exact ost_len n
theorem HO_0 : HO 0 0 0 (fun _ => 0) := by
  have e : (0 : Int32).toInt.toNat = 0 := by decide +kernel
  unfold HO
  rw [e]
  refine ⟨rfl, rfl, fun k => ?_⟩
  show (0 : Int32) = (List.replicate 26 (0 : Int32)).getD k 0
  rw [List.getD_eq_getElem?_getD, List.getElem?_replicate]
  split <;> rfl
theorem HO_sp {i w z r : Int32} {f : Nat → Int32} (h0 : 0 ≤ i.toInt) (hi1 : (i + 1).toInt = i.toInt + 1) (hr : r = oc i.toNatClampNeg) (hc : r = 32) (h : HO i w z f) : HO (i + 1) (w + 1) 0 f := by
  have e : (i + 1).toInt.toNat = i.toInt.toNat + 1 := by omega
  have hr : r = oc i.toInt.toNat := hr
  have b : (oc i.toInt.toNat == 32) = true := by rw [← hr, hc]; rfl
  obtain ⟨h1, h2, h3⟩ := h
  unfold HO
  rw [e]
  have s : ost (i.toInt.toNat + 1) = ((ost i.toInt.toNat).1 + 1, 0, (ost i.toInt.toNat).2.2) := by
    show (bif oc i.toInt.toNat == 32 then _ else _) = _
    rw [b]
    rfl
  rw [s]
  exact ⟨by rw [h1], rfl, h3⟩
theorem HO_le {i w z r : Int32} {f : Nat → Int32} (h0 : 0 ≤ i.toInt) (hi1 : (i + 1).toInt = i.toInt + 1) (hw : w.toInt < 26) (hr : r = oc i.toNatClampNeg) (hc : ¬ r = 32) (h : HO i w z f) : HO (i + 1) w (z + 1) (upd f w.toNatClampNeg (f w.toNatClampNeg ||| (r - 96) <<< ((5 * z) &&& 31))) := by
  have e : (i + 1).toInt.toNat = i.toInt.toNat + 1 := by omega
  have hr : r = oc i.toInt.toNat := hr
  have b : (oc i.toInt.toNat == 32) = false := by
    rw [← hr]
    exact beq_false_of_ne hc
  obtain ⟨h1, h2, h3⟩ := h
  unfold HO
  rw [e]
  have s : ost (i.toInt.toNat + 1) = ((ost i.toInt.toNat).1, (ost i.toInt.toNat).2.1 + 1, (ost i.toInt.toNat).2.2.set (ost i.toInt.toNat).1.toNatClampNeg ((ost i.toInt.toNat).2.2.getD (ost i.toInt.toNat).1.toNatClampNeg 0 ||| (oc i.toInt.toNat - 96) <<< ((5 * (ost i.toInt.toNat).2.1) &&& 31))) := by
    show (bif oc i.toInt.toNat == 32 then _ else _) = _
    rw [b]
    rfl
  rw [s]
  refine ⟨h1, by rw [h2], fun k => ?_⟩
  show upd f w.toNatClampNeg (f w.toNatClampNeg ||| (r - 96) <<< ((5 * z) &&& 31)) k = ((ost i.toInt.toNat).2.2.set (ost i.toInt.toNat).1.toNatClampNeg ((ost i.toInt.toNat).2.2.getD (ost i.toInt.toNat).1.toNatClampNeg 0 ||| (oc i.toInt.toNat - 96) <<< ((5 * (ost i.toInt.toNat).2.1) &&& 31))).getD k 0
  rw [h1, h2, ← hr, ← h3]
  have hl := ost_len i.toInt.toNat
  have hn : w.toNatClampNeg < 26 := by
    have : w.toNatClampNeg = w.toInt.toNat := rfl
    omega
  have u1 : ∀ (a : Nat) (v : Int32), upd f a v a = v := fun a v => by simp [upd]
  have u2 : ∀ (a k : Nat) (v : Int32), ¬ k = a → upd f a v k = f k := fun a k v h => by simp [upd, h]
  rw [List.getD_eq_getElem?_getD, List.getElem?_set]
  by_cases g : k = w.toNatClampNeg
  · subst g
    rw [u1, if_pos rfl, if_pos (by rw [hl]; exact hn)]
    rfl
  · rw [u2 _ _ _ g, if_neg (fun x => g x.symm), h3 k, List.getD_eq_getElem?_getD]
theorem HO_end {i w z : Int32} {f : Nat → Int32} (hi : i.toInt = 119) (h : HO i w z f) : OWf f := by
  intro k hk
  have h3 := h.2.2 k
  rw [hi] at h3
  exact h3.trans (ost_own ⟨k, hk⟩)
theorem HO_w {i w z : Int32} {f : Nat → Int32} (h0 : 0 ≤ i.toInt) (h1 : i.toInt < 119) (h : HO i w z f) : w.toInt < 26 := by
  have := ost_w ⟨i.toInt.toNat, by omega⟩
  rw [← h.1]
  exact this
theorem OWf_g {g : Nat → Int} (hg : ∀ k, R32 (g k)) (h : OWf (aI g)) : ∀ k : Nat, k < 26 → g k = own5 k := by
  intro k hk
  have h1 : iI (g k) = iI (own5 k) := h k hk
  have r : ∀ k : Fin 26, -2147483648 ≤ own5 k.val ∧ own5 k.val ≤ 2147483647 := by decide +kernel
  have h2 := congrArg Int32.toInt h1
  rw [iI_toInt (hg k), iI_toInt (r ⟨k, hk⟩)] at h2
  exact h2
theorem dkX0_init_0 : dkq cX0_init [(0, .aload_n 0, 1), (1, .invokespecial 5, 3), (4, .aload_n 0, 1), (5, .sipush 1201, 3), (8, .newarray .long, 2), (10, .putfield 11, 3), (13, .aload_n 0, 1), (14, .iconst 4, 1), (15, .bipush 7, 2), (17, .multianewarray 15 2, 4), (21, .putfield 17, 3), (24, .aload_n 0, 1), (25, .iconst 4, 1), (26, .newarray .int, 2), (28, .putfield 20, 3), (31, .aload_n 0, 1)] = true := by decide +kernel
theorem dkX0_init_1 : dkq cX0_init [(32, .iconst 4, 1), (33, .newarray .int, 2), (35, .putfield 24, 3), (38, .aload_n 0, 1), (39, .bipush 8, 2), (41, .newarray .int, 2), (43, .putfield 27, 3), (46, .aload_n 0, 1), (47, .bipush 88, 2), (49, .newarray .int, 2), (51, .putfield 30, 3), (54, .aload_n 0, 1), (55, .iconst 2, 1), (56, .newarray .int, 2), (58, .putfield 33, 3), (61, .aload_n 0, 1)] = true := by decide +kernel
theorem dkX0_init_2 : dkq cX0_init [(62, .sipush 1201, 3), (65, .newarray .long, 2), (67, .putfield 36, 3), (70, .aload_n 0, 1), (71, .sipush 1201, 3), (74, .newarray .long, 2), (76, .putfield 39, 3), (79, .aload_n 0, 1), (80, .iconst 0, 1), (81, .putfield 42, 3), (84, .aload_n 0, 1), (85, .iconst 1, 1), (86, .putfield 46, 3), (89, .aload_n 0, 1), (90, .iconst 0, 1), (91, .putfield 49, 3)] = true := by decide +kernel
theorem dkX0_init_3 : dkq cX0_init [(94, .aload_n 0, 1), (95, .iconst 0, 1), (96, .putfield 52, 3), (99, .aload_n 0, 1), (100, .iconst 3, 1), (101, .putfield 55, 3), (104, .aload_n 0, 1), (105, .iconst 0, 1), (106, .putfield 58, 3), (109, .aload_n 0, 1), (110, .iconst 0, 1), (111, .putfield 61, 3), (114, .aload_n 0, 1), (115, .iconst (-1), 1), (116, .putfield 64, 3), (119, .return_, 1)] = true := by decide +kernel
theorem dkX1_init_0 : dkq cX1_init [(0, .aload_n 0, 1), (1, .invokespecial 3, 3), (4, .aload_n 0, 1), (5, .bipush 20, 2), (7, .newarray .int, 2), (9, .putfield 11, 3), (12, .aload_n 0, 1), (13, .bipush 20, 2), (15, .newarray .boolean, 2), (17, .putfield 15, 3), (20, .aload_n 0, 1), (21, .iconst 3, 1), (22, .newarray .int, 2), (24, .putfield 19, 3), (27, .aload_n 0, 1), (28, .iconst 3, 1)] = true := by decide +kernel
theorem dkX1_init_1 : dkq cX1_init [(29, .newarray .int, 2), (31, .putfield 22, 3), (34, .aload_n 0, 1), (35, .iconst 0, 1), (36, .putfield 25, 3), (39, .aload_n 0, 1), (40, .iconst 0, 1), (41, .putfield 29, 3), (44, .aload_n 0, 1), (45, .iconst 0, 1), (46, .putfield 32, 3), (49, .aload_n 0, 1), (50, .iconst 0, 1), (51, .putfield 35, 3), (54, .return_, 1)] = true := by decide +kernel
theorem dkX2_init_0 : dkq cX2_init [(0, .aload_n 0, 1), (1, .invokespecial 3, 3), (4, .aload_n 0, 1), (5, .bipush 6, 2), (7, .newarray .int, 2), (9, .putfield 9, 3), (12, .return_, 1)] = true := by decide +kernel
theorem dkX3_init_0 : dkq cX3_init [(0, .aload_n 0, 1), (1, .invokespecial 3, 3), (4, .aload_n 0, 1), (5, .iconst 0, 1), (6, .putfield 9, 3), (9, .aload_n 0, 1), (10, .iconst 0, 1), (11, .putfield 15, 3), (14, .aload_n 0, 1), (15, .iconst 0, 1), (16, .putfield 18, 3), (19, .aload_n 0, 1), (20, .iconst 0, 1), (21, .putfield 21, 3), (24, .aload_n 0, 1), (25, .iconst (-1), 1)] = true := by decide +kernel
theorem dkX3_init_1 : dkq cX3_init [(26, .putfield 24, 3), (29, .aload_n 0, 1), (30, .iconst 0, 1), (31, .putfield 27, 3), (34, .aload_n 0, 1), (35, .aload_n 1, 1), (36, .putfield 31, 3), (39, .return_, 1)] = true := by decide +kernel
theorem dkX4_init_0 : dkq cX4_init [(0, .aload_n 0, 1), (1, .invokespecial 3, 3), (4, .aload_n 0, 1), (5, .bipush 36, 2), (7, .newarray .int, 2), (9, .putfield 11, 3), (12, .aload_n 0, 1), (13, .new 15, 3), (16, .dup, 1), (17, .invokespecial 17, 3), (20, .putfield 18, 3), (23, .aload_n 0, 1), (24, .iconst 0, 1), (25, .putfield 22, 3), (28, .return_, 1)] = true := by decide +kernel
theorem dkX5_init_0 : dkq cX5_init [(0, .aload_n 0, 1), (1, .invokespecial 3, 3), (4, .aload_n 0, 1), (5, .bipush 26, 2), (7, .newarray .int, 2), (9, .putfield 9, 3), (12, .aload_n 0, 1), (13, .iconst 0, 1), (14, .putfield 15, 3), (17, .aload_n 0, 1), (18, .iconst (-1), 1), (19, .putfield 19, 3), (22, .aload_n 0, 1), (23, .iconst 0, 1), (24, .putfield 22, 3), (27, .aload_n 0, 1)] = true := by decide +kernel
theorem dkX5_init_1 : dkq cX5_init [(28, .new 25, 3), (31, .dup, 1), (32, .aload_n 1, 1), (33, .invokespecial 27, 3), (36, .putfield 30, 3), (39, .iconst 0, 1), (40, .istore_n 2, 1), (41, .iconst 0, 1), (42, .istore_n 3, 1), (43, .iconst 0, 1), (44, .istore 4, 2), (46, .iload 4, 2), (48, .ldc 34, 2), (50, .invokevirtual 36, 3), (53, .if_icmp .ge 60, 3), (56, .iload_n 2, 1)] = true := by decide +kernel
theorem dkX5_init_2 : dkq cX5_init [(57, .bipush 26, 2), (59, .if_icmp .ge 54, 3), (62, .ldc 34, 2), (64, .iload 4, 2), (66, .invokevirtual 42, 3), (69, .istore 5, 2), (71, .iload 5, 2), (73, .bipush 32, 2), (75, .if_icmp .ne 11, 3), (78, .iinc 2 1, 3), (81, .iconst 0, 1), (82, .istore_n 3, 1), (83, .goto 24, 3), (86, .aload_n 0, 1), (87, .getfield 9, 3), (90, .iload_n 2, 1)] = true := by decide +kernel
theorem dkX5_init_3 : dkq cX5_init [(91, .dup2, 1), (92, .iaload, 1), (93, .iload 5, 2), (95, .bipush 96, 2), (97, .isub, 1), (98, .iconst 5, 1), (99, .iload_n 3, 1), (100, .imul, 1), (101, .ishl, 1), (102, .ior, 1), (103, .iastore, 1), (104, .iinc 3 1, 3), (107, .iinc 4 1, 3), (110, .goto (-64), 3), (113, .return_, 1)] = true := by decide +kernel
theorem dkX6_init_0 : dkq cX6_init [(0, .aload_n 0, 1), (1, .invokespecial 3, 3), (4, .aload_n 0, 1), (5, .iconst 3, 1), (6, .newarray .int, 2), (8, .putfield 9, 3), (11, .aload_n 0, 1), (12, .iconst 4, 1), (13, .newarray .int, 2), (15, .putfield 15, 3), (18, .aload_n 0, 1), (19, .iconst 4, 1), (20, .newarray .int, 2), (22, .putfield 18, 3), (25, .aload_n 0, 1), (26, .iconst 4, 1)] = true := by decide +kernel
theorem dkX6_init_1 : dkq cX6_init [(27, .bipush 6, 2), (29, .multianewarray 21 2, 4), (33, .putfield 23, 3), (36, .return_, 1)] = true := by decide +kernel
theorem dkX7_init_0 : dkq cX7_init [(0, .aload_n 0, 1), (1, .invokespecial 3, 3), (4, .aload_n 0, 1), (5, .sipush 1600, 3), (8, .newarray .byte, 2), (10, .putfield 9, 3), (13, .aload_n 0, 1), (14, .iconst 0, 1), (15, .putfield 15, 3), (18, .return_, 1)] = true := by decide +kernel
theorem dkX8_init_0 : dkq cX8_init [(0, .aload_n 0, 1), (1, .invokespecial 3, 3), (4, .aload_n 0, 1), (5, .sipush 1600, 3), (8, .newarray .int, 2), (10, .putfield 9, 3), (13, .aload_n 0, 1), (14, .bipush 64, 2), (16, .newarray .int, 2), (18, .putfield 15, 3), (21, .aload_n 0, 1), (22, .iconst 0, 1), (23, .putfield 18, 3), (26, .return_, 1)] = true := by decide +kernel
theorem dkX9_init_0 : dkq cX9_init [(0, .aload_n 0, 1), (1, .invokespecial 3, 3), (4, .aload_n 0, 1), (5, .bipush 8, 2), (7, .newarray .int, 2), (9, .putfield 9, 3), (12, .aload_n 0, 1), (13, .iconst 5, 1), (14, .bipush 10, 2), (16, .multianewarray 15 2, 4), (20, .putfield 17, 3), (23, .aload_n 0, 1), (24, .bipush 10, 2), (26, .newarray .int, 2), (28, .putfield 20, 3), (31, .aload_n 0, 1)] = true := by decide +kernel
theorem dkX9_init_1 : dkq cX9_init [(32, .bipush 10, 2), (34, .newarray .int, 2), (36, .putfield 23, 3), (39, .aload_n 0, 1), (40, .bipush 10, 2), (42, .newarray .int, 2), (44, .putfield 26, 3), (47, .aload_n 0, 1), (48, .iconst 4, 1), (49, .newarray .int, 2), (51, .putfield 29, 3), (54, .aload_n 0, 1), (55, .iconst 3, 1), (56, .newarray .int, 2), (58, .putfield 32, 3), (61, .aload_n 0, 1)] = true := by decide +kernel
theorem dkX9_init_2 : dkq cX9_init [(62, .bipush 6, 2), (64, .newarray .int, 2), (66, .putfield 35, 3), (69, .aload_n 0, 1), (70, .bipush 6, 2), (72, .newarray .int, 2), (74, .putfield 38, 3), (77, .aload_n 0, 1), (78, .bipush 6, 2), (80, .newarray .int, 2), (82, .putfield 41, 3), (85, .aload_n 0, 1), (86, .bipush 6, 2), (88, .newarray .int, 2), (90, .putfield 44, 3), (93, .aload_n 0, 1)] = true := by decide +kernel
theorem dkX9_init_3 : dkq cX9_init [(94, .bipush 6, 2), (96, .newarray .int, 2), (98, .putfield 47, 3), (101, .aload_n 0, 1)] = true := by decide +kernel
theorem dkX9_init_4 : dkq cX9_init [(102, .bipush 6, 2), (104, .newarray .int, 2), (106, .putfield 50, 3), (109, .aload_n 0, 1), (110, .new 53, 3), (113, .dup, 1), (114, .invokespecial 55, 3), (117, .putfield 56, 3), (120, .aload_n 0, 1), (121, .new 60, 3), (124, .dup, 1), (125, .invokespecial 62, 3), (128, .putfield 63, 3), (131, .aload_n 0, 1), (132, .iconst 0, 1), (133, .putfield 67, 3)] = true := by decide +kernel
theorem dkX9_init_5 : dkq cX9_init [(136, .return_, 1)] = true := by decide +kernel
theorem dkX10_init_0 : dkq cX10_init [(0, .aload_n 0, 1), (1, .invokespecial 3, 3), (4, .aload_n 0, 1), (5, .bipush 64, 2), (7, .newarray .int, 2), (9, .putfield 9, 3), (12, .aload_n 0, 1), (13, .sipush 2048, 3), (16, .newarray .int, 2), (18, .putfield 15, 3), (21, .return_, 1)] = true := by decide +kernel
theorem dkX11_init_0 : dkq cX11_init [(0, .aload_n 0, 1), (1, .invokespecial 1, 3), (4, .aload_n 0, 1), (5, .new 7, 3), (8, .dup, 1), (9, .invokespecial 9, 3), (12, .putfield 10, 3), (15, .aload_n 0, 1), (16, .new 16, 3), (19, .dup, 1), (20, .aload_n 0, 1), (21, .getfield 10, 3), (24, .invokespecial 18, 3), (27, .putfield 21, 3), (30, .aload_n 0, 1), (31, .new 25, 3)] = true := by decide +kernel
theorem dkX11_init_1 : dkq cX11_init [(34, .dup, 1), (35, .invokespecial 27, 3), (38, .putfield 28, 3), (41, .aload_n 0, 1), (42, .new 32, 3), (45, .dup, 1), (46, .invokespecial 34, 3), (49, .putfield 35, 3), (52, .aload_n 0, 1), (53, .new 39, 3), (56, .dup, 1), (57, .invokespecial 41, 3), (60, .putfield 42, 3), (63, .aload_n 0, 1), (64, .new 46, 3), (67, .dup, 1)] = true := by decide +kernel
theorem dkX11_init_2 : dkq cX11_init [(68, .invokespecial 48, 3), (71, .putfield 49, 3), (74, .aload_n 0, 1), (75, .new 53, 3), (78, .dup, 1), (79, .invokespecial 55, 3), (82, .putfield 56, 3), (85, .aload_n 0, 1), (86, .new 60, 3), (89, .dup, 1), (90, .invokespecial 62, 3), (93, .putfield 63, 3), (96, .aload_n 0, 1), (97, .bipush 6, 2), (99, .newarray .int, 2), (101, .putfield 67, 3)] = true := by decide +kernel
theorem dkX11_init_3 : dkq cX11_init [(104, .aload_n 0, 1), (105, .new 71, 3), (108, .dup, 1), (109, .invokespecial 73, 3), (112, .putfield 74, 3), (115, .aload_n 0, 1), (116, .new 71, 3), (119, .dup, 1), (120, .invokespecial 73, 3), (123, .putfield 78, 3), (126, .return_, 1)] = true := by decide +kernel
theorem dkX12_init_0 : dkq cX12_init [(0, .aload_n 0, 1), (1, .invokespecial 1, 3), (4, .aload_n 0, 1), (5, .sipush 1800, 3), (8, .newarray .int, 2), (10, .putfield 7, 3), (13, .aload_n 0, 1), (14, .iconst 0, 1), (15, .putfield 13, 3), (18, .aload_n 0, 1), (19, .iconst 0, 1), (20, .putfield 17, 3), (23, .aload_n 0, 1), (24, .iconst 0, 1), (25, .putfield 20, 3), (28, .aload_n 0, 1)] = true := by decide +kernel
theorem dkX12_init_1 : dkq cX12_init [(29, .iconst 0, 1), (30, .putfield 23, 3), (33, .aload_n 0, 1), (34, .iconst 0, 1), (35, .putfield 26, 3), (38, .aload_n 0, 1), (39, .iconst 0, 1), (40, .putfield 29, 3), (43, .aload_n 0, 1), (44, .lconst 0, 1), (45, .putfield 32, 3), (48, .aload_n 0, 1), (49, .iconst 0, 1), (50, .putfield 36, 3), (53, .aload_n 0, 1), (54, .iconst (-1), 1)] = true := by decide +kernel
theorem dkX12_init_2 : dkq cX12_init [(55, .putfield 39, 3), (58, .aload_n 0, 1), (59, .iconst 0, 1), (60, .putfield 42, 3), (63, .aload_n 0, 1), (64, .iconst (-1), 1), (65, .putfield 45, 3), (68, .aload_n 0, 1), (69, .iconst 0, 1), (70, .putfield 48, 3), (73, .aload_n 0, 1), (74, .iconst 2, 1), (75, .newarray .int, 2), (77, .putfield 51, 3), (80, .aload_n 0, 1), (81, .bipush 16, 2)] = true := by decide +kernel
theorem dkX12_init_3 : dkq cX12_init [(83, .newarray .long, 2), (85, .putfield 54, 3), (88, .aload_n 0, 1), (89, .iconst 2, 1), (90, .newarray .int, 2), (92, .putfield 58, 3), (95, .aload_n 0, 1), (96, .bipush 20, 2), (98, .newarray .long, 2), (100, .putfield 61, 3), (103, .aload_n 0, 1), (104, .bipush 20, 2), (106, .newarray .int, 2), (108, .putfield 64, 3), (111, .aload_n 0, 1), (112, .bipush 20, 2)] = true := by decide +kernel
theorem dkX12_init_4 : dkq cX12_init [(114, .newarray .int, 2), (116, .putfield 67, 3), (119, .aload_n 0, 1), (120, .bipush 20, 2), (122, .newarray .boolean, 2), (124, .putfield 70, 3), (127, .aload_n 0, 1), (128, .bipush 20, 2), (130, .newarray .int, 2), (132, .putfield 74, 3), (135, .aload_n 0, 1), (136, .bipush 20, 2), (138, .newarray .boolean, 2), (140, .putfield 77, 3), (143, .aload_n 0, 1), (144, .iconst 2, 1)] = true := by decide +kernel
theorem dkX12_init_5 : dkq cX12_init [(145, .newarray .int, 2), (147, .putfield 80, 3), (150, .aload_n 0, 1), (151, .bipush 8, 2), (153, .newarray .long, 2), (155, .putfield 83, 3), (158, .aload_n 0, 1), (159, .bipush 8, 2), (161, .newarray .int, 2), (163, .putfield 86, 3), (166, .aload_n 0, 1), (167, .bipush 8, 2), (169, .newarray .int, 2), (171, .putfield 89, 3), (174, .aload_n 0, 1), (175, .bipush 80, 2)] = true := by decide +kernel
theorem dkX12_init_6 : dkq cX12_init [(177, .newarray .int, 2), (179, .putfield 92, 3), (182, .aload_n 0, 1), (183, .iconst 2, 1), (184, .newarray .int, 2), (186, .putfield 95, 3), (189, .aload_n 0, 1), (190, .bipush 6, 2), (192, .newarray .long, 2), (194, .putfield 98, 3), (197, .aload_n 0, 1), (198, .bipush 6, 2), (200, .newarray .int, 2), (202, .putfield 101, 3), (205, .aload_n 0, 1), (206, .iconst 2, 1)] = true := by decide +kernel
theorem dkX12_init_7 : dkq cX12_init [(207, .newarray .int, 2), (209, .putfield 104, 3), (212, .aload_n 0, 1), (213, .bipush 8, 2), (215, .newarray .long, 2), (217, .putfield 107, 3), (220, .aload_n 0, 1), (221, .bipush 8, 2), (223, .newarray .int, 2), (225, .putfield 110, 3), (228, .aload_n 0, 1), (229, .iconst 2, 1), (230, .newarray .int, 2), (232, .putfield 113, 3), (235, .aload_n 0, 1), (236, .bipush 12, 2)] = true := by decide +kernel
theorem dkX12_init_8 : dkq cX12_init [(238, .newarray .int, 2), (240, .putfield 116, 3), (243, .aload_n 0, 1), (244, .bipush 12, 2), (246, .newarray .int, 2), (248, .putfield 119, 3), (251, .aload_n 0, 1), (252, .iconst 2, 1), (253, .newarray .int, 2), (255, .putfield 122, 3), (258, .aload_n 0, 1), (259, .bipush 16, 2), (261, .newarray .int, 2), (263, .putfield 125, 3), (266, .aload_n 0, 1), (267, .bipush 16, 2)] = true := by decide +kernel
theorem dkX12_init_9 : dkq cX12_init [(269, .newarray .int, 2), (271, .putfield 128, 3), (274, .aload_n 0, 1), (275, .bipush 16, 2), (277, .newarray .int, 2), (279, .putfield 131, 3), (282, .aload_n 0, 1), (283, .iconst 2, 1), (284, .newarray .int, 2), (286, .putfield 134, 3), (289, .aload_n 0, 1), (290, .bipush 12, 2), (292, .newarray .int, 2), (294, .putfield 137, 3), (297, .aload_n 0, 1), (298, .bipush 12, 2)] = true := by decide +kernel
theorem dkX12_init_10 : dkq cX12_init [(300, .newarray .int, 2), (302, .putfield 140, 3), (305, .aload_n 0, 1), (306, .bipush 12, 2), (308, .newarray .int, 2), (310, .putfield 143, 3), (313, .aload_n 0, 1), (314, .sipush 3200, 3), (317, .newarray .int, 2), (319, .putfield 146, 3), (322, .aload_n 0, 1), (323, .sipush 3200, 3), (326, .newarray .int, 2), (328, .putfield 149, 3), (331, .aload_n 0, 1), (332, .iconst 0, 1)] = true := by decide +kernel
theorem dkX12_init_11 : dkq cX12_init [(333, .putfield 152, 3), (336, .aload_n 0, 1), (337, .iconst 1, 1), (338, .putfield 155, 3), (341, .aload_n 0, 1), (342, .bipush 20, 2), (344, .newarray .int, 2), (346, .putfield 158, 3), (349, .aload_n 0, 1), (350, .bipush 20, 2), (352, .newarray .int, 2), (354, .putfield 161, 3), (357, .aload_n 0, 1), (358, .bipush 20, 2), (360, .newarray .boolean, 2), (362, .putfield 164, 3)] = true := by decide +kernel
theorem dkX12_init_12 : dkq cX12_init [(365, .aload_n 0, 1), (366, .bipush 20, 2), (368, .newarray .int, 2), (370, .putfield 167, 3), (373, .aload_n 0, 1), (374, .bipush 20, 2), (376, .newarray .int, 2), (378, .putfield 170, 3), (381, .aload_n 0, 1), (382, .iconst 0, 1), (383, .putfield 173, 3), (386, .aload_n 0, 1), (387, .iconst 0, 1), (388, .putfield 176, 3), (391, .aload_n 0, 1), (392, .sipush 500, 3)] = true := by decide +kernel
theorem dkX12_init_13 : dkq cX12_init [(395, .newarray .int, 2), (397, .putfield 179, 3), (400, .aload_n 0, 1), (401, .iconst 0, 1), (402, .putfield 182, 3)] = true := by decide +kernel
theorem dkX12_init_14 : dkq cX12_init [(405, .aload_n 0, 1), (406, .iconst 0, 1), (407, .putfield 185, 3), (410, .aload_n 0, 1), (411, .bipush 6, 2), (413, .newarray .int, 2), (415, .putfield 189, 3), (418, .aload_n 0, 1), (419, .sipush 1650, 3), (422, .newarray .long, 2), (424, .putfield 192, 3), (427, .aload_n 0, 1), (428, .bipush 10, 2), (430, .newarray .int, 2), (432, .putfield 195, 3), (435, .aload_n 0, 1)] = true := by decide +kernel
theorem dkX12_init_15 : dkq cX12_init [(436, .iconst 3, 1), (437, .newarray .int, 2), (439, .putfield 198, 3), (442, .aload_n 0, 1), (443, .iconst 4, 1), (444, .newarray .int, 2), (446, .putfield 201, 3), (449, .aload_n 0, 1), (450, .bipush 40, 2), (452, .newarray .int, 2), (454, .putfield 204, 3), (457, .aload_n 0, 1), (458, .ldc 207, 2), (460, .newarray .int, 2), (462, .putfield 208, 3), (465, .aload_n 0, 1)] = true := by decide +kernel
theorem dkX12_init_16 : dkq cX12_init [(466, .ldc 207, 2), (468, .newarray .int, 2), (470, .putfield 211, 3), (473, .aload_n 0, 1), (474, .iconst 0, 1), (475, .putfield 214, 3), (478, .aload_n 0, 1), (479, .iconst 0, 1), (480, .putfield 217, 3), (483, .aload_n 0, 1), (484, .iconst 4, 1), (485, .newarray .int, 2), (487, .putfield 220, 3), (490, .aload_n 0, 1), (491, .iconst 0, 1), (492, .putfield 223, 3)] = true := by decide +kernel
theorem dkX12_init_17 : dkq cX12_init [(495, .aload_n 0, 1), (496, .iconst 0, 1), (497, .putfield 226, 3), (500, .aload_n 0, 1), (501, .iconst 0, 1), (502, .putfield 229, 3), (505, .aload_n 0, 1), (506, .iconst 2, 1), (507, .newarray .int, 2), (509, .putfield 232, 3), (512, .aload_n 0, 1), (513, .iconst 0, 1), (514, .putfield 235, 3), (517, .aload_n 0, 1), (518, .bipush 9, 2), (520, .newarray .int, 2)] = true := by decide +kernel
theorem dkX12_init_18 : dkq cX12_init [(522, .putfield 238, 3), (525, .aload_n 0, 1), (526, .iconst 0, 1), (527, .putfield 241, 3), (530, .aload_n 0, 1), (531, .bipush 20, 2), (533, .newarray .int, 2), (535, .putfield 244, 3), (538, .aload_n 0, 1), (539, .bipush 20, 2), (541, .newarray .boolean, 2), (543, .putfield 247, 3), (546, .aload_n 0, 1), (547, .iconst 0, 1), (548, .putfield 250, 3), (551, .aload_n 0, 1)] = true := by decide +kernel
theorem dkX12_init_19 : dkq cX12_init [(552, .iconst 3, 1), (553, .newarray .int, 2), (555, .putfield 253, 3), (558, .aload_n 0, 1), (559, .iconst 0, 1), (560, .putfield 256, 3), (563, .aload_n 0, 1), (564, .bipush 64, 2), (566, .newarray .int, 2), (568, .putfield 259, 3), (571, .aload_n 0, 1), (572, .sipush 2048, 3), (575, .newarray .int, 2), (577, .putfield 262, 3), (580, .aload_n 0, 1), (581, .bipush 48, 2)] = true := by decide +kernel
theorem dkX12_init_20 : dkq cX12_init [(583, .newarray .int, 2), (585, .putfield 265, 3), (588, .aload_n 0, 1), (589, .iconst 0, 1), (590, .putfield 268, 3), (593, .return_, 1)] = true := by decide +kernel
theorem dkJ0_length_8abf5_0 : dkq cJ0_length_8abf5 [(0, .aload_n 0, 1), (1, .getfield 9, 3), (4, .arraylength, 1), (5, .aload_n 0, 1), (6, .invokevirtual 335, 3), (9, .ishr, 1), (10, .ireturn, 1)] = true := by decide +kernel
theorem dkJ0_charAt_5068e_0 : dkq cJ0_charAt_5068e [(0, .aload_n 0, 1), (1, .invokevirtual 492, 3), (4, .ifCond .eq 12, 3), (7, .aload_n 0, 1), (8, .getfield 9, 3), (11, .iload_n 1, 1), (12, .invokestatic 495, 3), (15, .ireturn, 1)] = true := by decide +kernel
theorem dkJ0_coder_7d493_0 : dkq cJ0_coder_7d493 [(0, .getstatic 38, 3), (3, .ifCond .eq 10, 3), (6, .aload_n 0, 1), (7, .getfield 15, 3), (10, .goto 4, 3), (14, .ireturn, 1)] = true := by decide +kernel
theorem dkJ0_isLatin1_aae02_0 : dkq cJ0_isLatin1_aae02 [(0, .getstatic 38, 3), (3, .ifCond .eq 14, 3), (6, .aload_n 0, 1), (7, .getfield 15, 3), (10, .ifCond .ne 7, 3), (13, .iconst 1, 1), (14, .goto 4, 3), (18, .ireturn, 1)] = true := by decide +kernel
theorem dkJ0_checkIndex_df160_0 : dkq cJ0_checkIndex_df160 [(0, .iload_n 0, 1), (1, .iload_n 1, 1), (2, .getstatic 1053, 3), (5, .invokestatic 1059, 3), (8, .pop, 1), (9, .return_, 1)] = true := by decide +kernel
theorem dkJ1_charAt_3b067_0 : dkq cJ1_charAt_3b067 [(0, .iload_n 1, 1), (1, .aload_n 0, 1), (2, .arraylength, 1), (3, .invokestatic 9, 3), (6, .aload_n 0, 1), (7, .iload_n 1, 1), (8, .baload, 1), (9, .sipush 255, 3), (12, .iand, 1), (13, .i2c, 1), (14, .ireturn, 1)] = true := by decide +kernel
theorem dkJ3_checkIndex_8e157_0 : dkq cJ3_checkIndex_8e157 [(0, .iload_n 0, 1), (1, .ifCond .lt 8, 3), (4, .iload_n 0, 1), (5, .iload_n 1, 1), (6, .if_icmp .lt 10, 3), (16, .iload_n 0, 1), (17, .ireturn, 1)] = true := by decide +kernel
def ws_kj_c3n : List Cond := .code yJ3_checkIndex_8e157 cJ3_checkIndex_8e157 3 (some .int) :: []
set_option maxHeartbeats 4000000 in
set_option maxRecDepth 100000 in
theorem kj_c3n (l : Launch) (sz : Nat) (x n : Int32) (h0 : 0 ≤ x.toInt) (h1 : x.toInt < n.toInt) : Met l yJ3_checkIndex_8e157 ws_kj_c3n ({ frames := 0, cells := 0, slots := 0, locals := 0 }) (va_Pc [.int x, .int n, .null] (fun U => U.heap.size = sz)) (va_Qi (fun (r : Int32) (_ : Unit) => True) (fun _ _ => True) (va_A [] sz)) 0 0 (va_A [] sz) := by
  refine Met.ofW (cc := cJ3_checkIndex_8e157) (maxL := 3) (ret := (some .int)) (by decide +kernel) rfl ?_
  intro p e s m args below meth c s₁ B hml hv
  obtain ⟨rfl, hsz⟩ := hv
  have hx := B.exec
  have hb := B.bytes
  have hr := B.returns
  have hts := atoms_spec (ws := ws_kj_c3n) B.pre
  have hown : s.vm.findClass RJ3 = some m.cls := findClass_of_methodNamed B.named
  subst hsz
  generalize hAe : va_A [] s.heap.size = A at ⊢
  have hA : ∀ b : Nat, s.heap.size ≤ b → A b := fun b h => by rw [← hAe]; exact Or.inr h
  clear hAe
  have hD : va_D A [] := ⟨fun i j p q h => by simp at h, fun k q h => by simp at h⟩
  have hS : va_S A s.heap s.heap [] := va_S.rf
  have hl := lv_entry ([.int x, .int n, .null]) (n := 3) (Nat.le_of_ble_eq_true rfl)
  rw [lg_entry_eq]
  generalize (lg_sl ([.int x, .int n, .null]) ++ List.replicate (3 - (lg_sl ([.int x, .int n, .null])).length) Slot.unset).toArray = ls at hl ⊢
  have hl : lv_has ls 3 [(0, .int x), (1, .int n), (2, .null)] := hl
  obtain ⟨H, hHe⟩ : ∃ H : Heap, H = s.heap := ⟨_, rfl⟩
  have hS : va_S A s.heap H [] := by rw [hHe]; exact hS
  rw [← hHe]
  have z0 : (0 : Int32).toInt = 0 := by decide +kernel
  refine lv_iload_n hx hb (dk_at dkJ3_checkIndex_8e157_0 0 rfl) rfl (lv_at hl 0 rfl) ?_
  refine lv_if_lt (tgt := 9) hx hb (dk_at dkJ3_checkIndex_8e157_0 1 rfl) (by decide) (fun q => False.elim (by have qi := (fa_lt _ _).mp q; omega)) (fun _ => ?_)
  refine lv_iload_n hx hb (dk_at dkJ3_checkIndex_8e157_0 2 rfl) rfl (lv_at hl 0 rfl) ?_
  refine lv_iload_n hx hb (dk_at dkJ3_checkIndex_8e157_0 3 rfl) rfl (lv_at hl 1 rfl) ?_
  refine lv_icmp_lt (tgt := 16) hx hb (dk_at dkJ3_checkIndex_8e157_0 4 rfl) (by decide) (fun _ => ?_) (fun q => False.elim (by have qi := mt (fa_lt _ _).mpr q; omega))
  refine lv_iload_n hx hb (dk_at dkJ3_checkIndex_8e157_0 5 rfl) rfl (lv_at hl 0 rfl) ?_
  exact W.iret (v := x) hx hb hr (fun t ht hW => ⟨⟨x, (), rfl, trivial, trivial⟩, hS.F ht⟩) hS.2.2 (dk_at dkJ3_checkIndex_8e157_0 6 rfl)
def ws_kj_c3r : List Cond := .code yJ3_checkIndex_8e157 cJ3_checkIndex_8e157 3 (some .int) :: []
set_option maxHeartbeats 4000000 in
set_option maxRecDepth 100000 in
theorem kj_c3r (l : Launch) (sz : Nat) (t : Nat) (x n : Int32) (h0 : 0 ≤ x.toInt) (h1 : x.toInt < n.toInt) : Met l yJ3_checkIndex_8e157 ws_kj_c3r ({ frames := 0, cells := 0, slots := 0, locals := 0 }) (va_Pc [.int x, .int n, .ref t] (fun U => U.heap.size = sz)) (va_Qi (fun (r : Int32) (_ : Unit) => True) (fun _ _ => True) (va_A [] sz)) 0 0 (va_A [] sz) := by
  refine Met.ofW (cc := cJ3_checkIndex_8e157) (maxL := 3) (ret := (some .int)) (by decide +kernel) rfl ?_
  intro p e s m args below meth c s₁ B hml hv
  obtain ⟨rfl, hsz⟩ := hv
  have hx := B.exec
  have hb := B.bytes
  have hr := B.returns
  have hts := atoms_spec (ws := ws_kj_c3r) B.pre
  have hown : s.vm.findClass RJ3 = some m.cls := findClass_of_methodNamed B.named
  subst hsz
  generalize hAe : va_A [] s.heap.size = A at ⊢
  have hA : ∀ b : Nat, s.heap.size ≤ b → A b := fun b h => by rw [← hAe]; exact Or.inr h
  clear hAe
  have hD : va_D A [] := ⟨fun i j p q h => by simp at h, fun k q h => by simp at h⟩
  have hS : va_S A s.heap s.heap [] := va_S.rf
  have hl := lv_entry ([.int x, .int n, .ref t]) (n := 3) (Nat.le_of_ble_eq_true rfl)
  rw [lg_entry_eq]
  generalize (lg_sl ([.int x, .int n, .ref t]) ++ List.replicate (3 - (lg_sl ([.int x, .int n, .ref t])).length) Slot.unset).toArray = ls at hl ⊢
  have hl : lv_has ls 3 [(0, .int x), (1, .int n), (2, .ref t)] := hl
  obtain ⟨H, hHe⟩ : ∃ H : Heap, H = s.heap := ⟨_, rfl⟩
  have hS : va_S A s.heap H [] := by rw [hHe]; exact hS
  rw [← hHe]
  have z0 : (0 : Int32).toInt = 0 := by decide +kernel
  refine lv_iload_n hx hb (dk_at dkJ3_checkIndex_8e157_0 0 rfl) rfl (lv_at hl 0 rfl) ?_
  refine lv_if_lt (tgt := 9) hx hb (dk_at dkJ3_checkIndex_8e157_0 1 rfl) (by decide) (fun q => False.elim (by have qi := (fa_lt _ _).mp q; omega)) (fun _ => ?_)
  refine lv_iload_n hx hb (dk_at dkJ3_checkIndex_8e157_0 2 rfl) rfl (lv_at hl 0 rfl) ?_
  refine lv_iload_n hx hb (dk_at dkJ3_checkIndex_8e157_0 3 rfl) rfl (lv_at hl 1 rfl) ?_
  refine lv_icmp_lt (tgt := 16) hx hb (dk_at dkJ3_checkIndex_8e157_0 4 rfl) (by decide) (fun _ => ?_) (fun q => False.elim (by have qi := mt (fa_lt _ _).mpr q; omega))
  refine lv_iload_n hx hb (dk_at dkJ3_checkIndex_8e157_0 5 rfl) rfl (lv_at hl 0 rfl) ?_
  exact W.iret (v := x) hx hb hr (fun t ht hW => ⟨⟨x, (), rfl, trivial, trivial⟩, hS.F ht⟩) hS.2.2 (dk_at dkJ3_checkIndex_8e157_0 6 rfl)
def ws_kj_c0 : List Cond := .code yJ0_checkIndex_df160 cJ0_checkIndex_df160 2 none :: [.fieldLink RJ0 1053 "jdk/internal/util/Preconditions" "SIOOBE_FORMATTER" "Ljava/util/function/BiFunction;", .methodLink RJ0 1059 yJ3_checkIndex_8e157, .static yJ3_checkIndex_8e157, .initialized RJ3, .code yJ3_checkIndex_8e157 cJ3_checkIndex_8e157 3 (some .int)]
set_option maxRecDepth 20000 in
theorem g_kj_c0_0 : GoodIn ws_kj_c0 (va_wsS RJ0 1059 yJ3_checkIndex_8e157 ws_kj_c3n) := goodIn_r _ [2, 3, 4, 5] (by decide +kernel) (by decide +kernel)
set_option maxRecDepth 20000 in
theorem g_kj_c0_1 : GoodIn ws_kj_c0 (va_wsS RJ0 1059 yJ3_checkIndex_8e157 ws_kj_c3r) := goodIn_r _ [2, 3, 4, 5] (by decide +kernel) (by decide +kernel)
set_option maxHeartbeats 4000000 in
set_option maxRecDepth 100000 in
theorem kj_c0 (l : Launch) (sz : Nat) (aK aV : Nat) (x n : Int32) (h0 : 0 ≤ x.toInt) (h1 : x.toInt < n.toInt) : Met l yJ0_checkIndex_df160 ws_kj_c0 ({ frames := 1, cells := 0, slots := 0, locals := 22 }) (va_Pc [.int x, .int n] (fun U => U.heap.size = sz ∧ exS aK aV (va_A [] sz) U)) (va_Qv (fun _ : Unit => True) (fun _ _ => True) (va_A [] sz)) 0 0 (va_A [] sz) := by
  refine Met.ofW (cc := cJ0_checkIndex_df160) (maxL := 2) (ret := none) (by decide +kernel) rfl ?_
  intro p e s m args below meth c s₁ B hml hv
  obtain ⟨rfl, hsz, hES⟩ := hv
  have hx := B.exec
  have hb := B.bytes
  have hr := B.returns
  have hts := atoms_spec (ws := ws_kj_c0) B.pre
  have hown : s.vm.findClass RJ0 = some m.cls := findClass_of_methodNamed B.named
  subst hsz
  generalize hAe : va_A [] s.heap.size = A at hES ⊢
  have hA : ∀ b : Nat, s.heap.size ≤ b → A b := fun b h => by rw [← hAe]; exact Or.inr h
  clear hAe
  have hD : va_D A [] := ⟨fun i j p q h => by simp at h, fun k q h => by simp at h⟩
  have hS : va_S A s.heap s.heap [] := va_S.rf
  have hl := lv_entry ([.int x, .int n]) (n := 2) (Nat.le_of_ble_eq_true rfl)
  rw [lg_entry_eq]
  generalize (lg_sl ([.int x, .int n]) ++ List.replicate (2 - (lg_sl ([.int x, .int n])).length) Slot.unset).toArray = ls at hl ⊢
  have hl : lv_has ls 2 [(0, .int x), (1, .int n)] := hl
  obtain ⟨H, hHe⟩ : ∃ H : Heap, H = s.heap := ⟨_, rfl⟩
  have hS : va_S A s.heap H [] := by rw [hHe]; exact hS
  rw [← hHe]
  refine lv_iload_n hx hb (dk_at dkJ0_checkIndex_df160_0 0 rfl) rfl (lv_at hl 0 rfl) ?_
  refine lv_iload_n hx hb (dk_at dkJ0_checkIndex_df160_0 1 rfl) rfl (lv_at hl 1 rfl) ?_
  rcases hES.2.2.2 with hz | ⟨t0, hz⟩
  · refine va_gets hx hb hz hS hown (hts _ (List.mem_of_getElem? (i := 1) rfl)) (fun _ h => h) (dk_at dkJ0_checkIndex_df160_0 2 rfl) ?_
    have hFc := va_free (wc := []) hD hS hA [] rfl
    refine va_calli (va_runS (As := [.int x, .int n, .null]) (rest := []) ⟨hx, hb, hml, hown, hts⟩ (kj_c3n l H.size x n h0 h1) (va_cwS 3 hts g_kj_c0_0 rfl rfl rfl (by decide +kernel) ⟨Nat.le_of_ble_eq_true rfl, Nat.le_of_ble_eq_true rfl⟩) ⟨fun a U g mk Z => ⟨Z.1, Z.2⟩, fun U hU hW => ⟨rfl, congrArg Array.size hU⟩⟩ rfl rfl hl.1 rfl (lv_room (Nat.le_of_ble_eq_true rfl)) (dk_at dkJ0_checkIndex_df160_0 3 rfl) ⟨Nat.le_of_ble_eq_true rfl, Nat.le_of_ble_eq_true rfl⟩) hS (fun b _ h => hFc b h) hFc (fun r u t H1 locs ht hvm hw hB hz1 hk1 hS => ?_)
    clear hFc hk1 hz1 hvm ht hB
    generalize H1 = H at hS ⊢
    refine lv_pop hx hb (dk_at dkJ0_checkIndex_df160_0 4 rfl) rfl ?_
    exact W.vret hx hb hr (fun t ht hW => ⟨⟨(), rfl, trivial, trivial⟩, hS.F ht⟩) hS.2.2 (dk_at dkJ0_checkIndex_df160_0 5 rfl)
  · refine va_gets hx hb hz hS hown (hts _ (List.mem_of_getElem? (i := 1) rfl)) (fun _ h => h) (dk_at dkJ0_checkIndex_df160_0 2 rfl) ?_
    have hFc := va_free (wc := []) hD hS hA [] rfl
    refine va_calli (va_runS (As := [.int x, .int n, .ref t0]) (rest := []) ⟨hx, hb, hml, hown, hts⟩ (kj_c3r l H.size t0 x n h0 h1) (va_cwS 3 hts g_kj_c0_1 rfl rfl rfl (by decide +kernel) ⟨Nat.le_of_ble_eq_true rfl, Nat.le_of_ble_eq_true rfl⟩) ⟨fun a U g mk Z => ⟨Z.1, Z.2⟩, fun U hU hW => ⟨rfl, congrArg Array.size hU⟩⟩ rfl rfl hl.1 rfl (lv_room (Nat.le_of_ble_eq_true rfl)) (dk_at dkJ0_checkIndex_df160_0 3 rfl) ⟨Nat.le_of_ble_eq_true rfl, Nat.le_of_ble_eq_true rfl⟩) hS (fun b _ h => hFc b h) hFc (fun r u t H1 locs ht hvm hw hB hz1 hk1 hS => ?_)
    clear hFc hk1 hz1 hvm ht hB
    generalize H1 = H at hS ⊢
    refine lv_pop hx hb (dk_at dkJ0_checkIndex_df160_0 4 rfl) rfl ?_
    exact W.vret hx hb hr (fun t ht hW => ⟨⟨(), rfl, trivial, trivial⟩, hS.F ht⟩) hS.2.2 (dk_at dkJ0_checkIndex_df160_0 5 rfl)
def ws_kj_lat : List Cond := .code yJ0_isLatin1_aae02 cJ0_isLatin1_aae02 1 (some .boolean) :: [.fieldLink RJ0 38 "java/lang/String" "COMPACT_STRINGS" "Z", .fieldLink RJ0 15 "java/lang/String" "coder" "B"]
set_option maxHeartbeats 4000000 in
set_option maxRecDepth 100000 in
theorem kj_lat (l : Launch) (sz : Nat) (aK aV : Nat) : Met l yJ0_isLatin1_aae02 ws_kj_lat ({ frames := 0, cells := 0, slots := 0, locals := 0 }) (va_Pc [.ref aK] (fun U => U.heap.size = sz ∧ exS aK aV (va_A [] sz) U)) (va_Qi (fun (r : Int32) (_ : Unit) => r = 1) (fun _ _ => True) (va_A [] sz)) 0 0 (va_A [] sz) := by
  refine Met.ofW (cc := cJ0_isLatin1_aae02) (maxL := 1) (ret := (some .boolean)) (by decide +kernel) rfl ?_
  intro p e s m args below meth c s₁ B hml hv
  obtain ⟨rfl, hsz, hES⟩ := hv
  have hx := B.exec
  have hb := B.bytes
  have hr := B.returns
  have hts := atoms_spec (ws := ws_kj_lat) B.pre
  have hown : s.vm.findClass RJ0 = some m.cls := findClass_of_methodNamed B.named
  subst hsz
  generalize hAe : va_A [] s.heap.size = A at hES ⊢
  have hA : ∀ b : Nat, s.heap.size ≤ b → A b := fun b h => by rw [← hAe]; exact Or.inr h
  clear hAe
  have hD : va_D A [] := ⟨fun i j p q h => by simp at h, fun k q h => by simp at h⟩
  have hS : va_S A s.heap s.heap [] := va_S.rf
  have hl := lv_entry ([.ref aK]) (n := 1) (Nat.le_of_ble_eq_true rfl)
  rw [lg_entry_eq]
  generalize (lg_sl ([.ref aK]) ++ List.replicate (1 - (lg_sl ([.ref aK])).length) Slot.unset).toArray = ls at hl ⊢
  have hl : lv_has ls 1 [(0, .ref aK)] := hl
  obtain ⟨H, hHe⟩ : ∃ H : Heap, H = s.heap := ⟨_, rfl⟩
  have hS : va_S A s.heap H [] := by rw [hHe]; exact hS
  rw [← hHe]
  refine va_gets hx hb hES.2.2.1 hS hown (hts _ (List.mem_of_getElem? (i := 1) rfl)) (fun _ h => h) (dk_at dkJ0_isLatin1_aae02_0 0 rfl) ?_
  refine lv_if_eq (tgt := 17) hx hb (dk_at dkJ0_isLatin1_aae02_0 1 rfl) (by decide) (fun q => absurd q (by decide +kernel)) (fun _ => ?_)
  refine lv_aload_n hx hb (dk_at dkJ0_isLatin1_aae02_0 2 rfl) rfl (lv_at hl 0 rfl) ?_
  refine vk_getf hx hb (hES.2.1.1 0 (by decide)).2.1 hS hown (hts _ (List.mem_of_getElem? (i := 2) rfl)) (fun _ h => h) (dk_at dkJ0_isLatin1_aae02_0 3 rfl) ?_
  refine lv_if_ne (tgt := 17) hx hb (dk_at dkJ0_isLatin1_aae02_0 4 rfl) (by decide) (fun q => absurd q (by decide +kernel)) (fun _ => ?_)
  refine lv_iconst (v := 1) hx hb (dk_at dkJ0_isLatin1_aae02_0 5 rfl) (by decide +kernel) ?_
  refine lv_goto (tgt := 18) hx hb (dk_at dkJ0_isLatin1_aae02_0 6 rfl) (by decide) ?_
  exact W.zret (v := 1) hx hb hr (by decide +kernel) (fun t ht hW => ⟨⟨1, (), rfl, rfl, trivial⟩, hS.F ht⟩) hS.2.2 (dk_at dkJ0_isLatin1_aae02_0 7 rfl)
def ws_kj_cod : List Cond := .code yJ0_coder_7d493 cJ0_coder_7d493 1 (some .byte) :: [.fieldLink RJ0 38 "java/lang/String" "COMPACT_STRINGS" "Z", .fieldLink RJ0 15 "java/lang/String" "coder" "B"]
set_option maxHeartbeats 4000000 in
set_option maxRecDepth 100000 in
theorem kj_cod (l : Launch) (sz : Nat) (aK aV : Nat) : Met l yJ0_coder_7d493 ws_kj_cod ({ frames := 0, cells := 0, slots := 0, locals := 0 }) (va_Pc [.ref aK] (fun U => U.heap.size = sz ∧ exS aK aV (va_A [] sz) U)) (va_Qi (fun (r : Int32) (_ : Unit) => r = 0) (fun _ _ => True) (va_A [] sz)) 0 0 (va_A [] sz) := by
  refine Met.ofW (cc := cJ0_coder_7d493) (maxL := 1) (ret := (some .byte)) (by decide +kernel) rfl ?_
  intro p e s m args below meth c s₁ B hml hv
  obtain ⟨rfl, hsz, hES⟩ := hv
  have hx := B.exec
  have hb := B.bytes
  have hr := B.returns
  have hts := atoms_spec (ws := ws_kj_cod) B.pre
  have hown : s.vm.findClass RJ0 = some m.cls := findClass_of_methodNamed B.named
  subst hsz
  generalize hAe : va_A [] s.heap.size = A at hES ⊢
  have hA : ∀ b : Nat, s.heap.size ≤ b → A b := fun b h => by rw [← hAe]; exact Or.inr h
  clear hAe
  have hD : va_D A [] := ⟨fun i j p q h => by simp at h, fun k q h => by simp at h⟩
  have hS : va_S A s.heap s.heap [] := va_S.rf
  have hl := lv_entry ([.ref aK]) (n := 1) (Nat.le_of_ble_eq_true rfl)
  rw [lg_entry_eq]
  generalize (lg_sl ([.ref aK]) ++ List.replicate (1 - (lg_sl ([.ref aK])).length) Slot.unset).toArray = ls at hl ⊢
  have hl : lv_has ls 1 [(0, .ref aK)] := hl
  obtain ⟨H, hHe⟩ : ∃ H : Heap, H = s.heap := ⟨_, rfl⟩
  have hS : va_S A s.heap H [] := by rw [hHe]; exact hS
  rw [← hHe]
  refine va_gets hx hb hES.2.2.1 hS hown (hts _ (List.mem_of_getElem? (i := 1) rfl)) (fun _ h => h) (dk_at dkJ0_coder_7d493_0 0 rfl) ?_
  refine lv_if_eq (tgt := 13) hx hb (dk_at dkJ0_coder_7d493_0 1 rfl) (by decide) (fun q => absurd q (by decide +kernel)) (fun _ => ?_)
  refine lv_aload_n hx hb (dk_at dkJ0_coder_7d493_0 2 rfl) rfl (lv_at hl 0 rfl) ?_
  refine vk_getf hx hb (hES.2.1.1 0 (by decide)).2.1 hS hown (hts _ (List.mem_of_getElem? (i := 2) rfl)) (fun _ h => h) (dk_at dkJ0_coder_7d493_0 3 rfl) ?_
  refine lv_goto (tgt := 14) hx hb (dk_at dkJ0_coder_7d493_0 4 rfl) (by decide) ?_
  exact W.zret (v := 0) hx hb hr (by decide +kernel) (fun t ht hW => ⟨⟨0, (), rfl, rfl, trivial⟩, hS.F ht⟩) hS.2.2 (dk_at dkJ0_coder_7d493_0 5 rfl)
def ws_kj_len : List Cond := .code yJ0_length_8abf5 cJ0_length_8abf5 1 (some .int) :: [.fieldLink RJ0 9 "java/lang/String" "value" "[B", .methodLink RJ0 335 yJ0_coder_7d493, .instanceMethod yJ0_coder_7d493, .selects RJ0 yJ0_coder_7d493 yJ0_coder_7d493, .initialized RJ0, .code yJ0_coder_7d493 cJ0_coder_7d493 1 (some .byte), .fieldLink RJ0 38 "java/lang/String" "COMPACT_STRINGS" "Z", .fieldLink RJ0 15 "java/lang/String" "coder" "B"]
set_option maxRecDepth 20000 in
theorem g_kj_len_0 : GoodIn ws_kj_len (wsV RJ0 335 RJ0 yJ0_coder_7d493 ws_kj_cod) := goodIn_r _ [2, 3, 4, 5, 6, 7, 8] (by decide +kernel) (by decide +kernel)
set_option maxHeartbeats 4000000 in
set_option maxRecDepth 100000 in
theorem kj_len (l : Launch) (sz : Nat) (aK aV : Nat) : Met l yJ0_length_8abf5 ws_kj_len ({ frames := 1, cells := 0, slots := 0, locals := 20 }) (va_Pc [.ref aK] (fun U => U.heap.size = sz ∧ exS aK aV (va_A [] sz) U)) (va_Qi (fun (r : Int32) (_ : Unit) => r = 119) (fun _ _ => True) (va_A [] sz)) 0 0 (va_A [] sz) := by
  refine Met.ofW (cc := cJ0_length_8abf5) (maxL := 1) (ret := (some .int)) (by decide +kernel) rfl ?_
  intro p e s m args below meth c s₁ B hml hv
  obtain ⟨rfl, hsz, hES⟩ := hv
  have hx := B.exec
  have hb := B.bytes
  have hr := B.returns
  have hts := atoms_spec (ws := ws_kj_len) B.pre
  have hown : s.vm.findClass RJ0 = some m.cls := findClass_of_methodNamed B.named
  subst hsz
  generalize hAe : va_A [] s.heap.size = A at hES ⊢
  have hA : ∀ b : Nat, s.heap.size ≤ b → A b := fun b h => by rw [← hAe]; exact Or.inr h
  clear hAe
  have hD : va_D A [] := ⟨fun i j p q h => by simp at h, fun k q h => by simp at h⟩
  have hS : va_S A s.heap s.heap [] := va_S.rf
  have hl := lv_entry ([.ref aK]) (n := 1) (Nat.le_of_ble_eq_true rfl)
  rw [lg_entry_eq]
  generalize (lg_sl ([.ref aK]) ++ List.replicate (1 - (lg_sl ([.ref aK])).length) Slot.unset).toArray = ls at hl ⊢
  have hl : lv_has ls 1 [(0, .ref aK)] := hl
  obtain ⟨H, hHe⟩ : ∃ H : Heap, H = s.heap := ⟨_, rfl⟩
  have hS : va_S A s.heap H [] := by rw [hHe]; exact hS
  rw [← hHe]
  refine lv_aload_n hx hb (dk_at dkJ0_length_8abf5_0 0 rfl) rfl (lv_at hl 0 rfl) ?_
  refine vk_getf hx hb (hES.2.1.1 0 (by decide)).2.2.1 hS hown (hts _ (List.mem_of_getElem? (i := 1) rfl)) (fun _ h => h) (dk_at dkJ0_length_8abf5_0 1 rfl) ?_
  refine va_tlen (v := 119) hx hb (hES.2.1.1 0 (by decide)).2.2.2 hS (by decide +kernel) (dk_at dkJ0_length_8abf5_0 2 rfl) ?_
  refine lv_aload_n hx hb (dk_at dkJ0_length_8abf5_0 3 rfl) rfl (lv_at hl 0 rfl) ?_
  have hFc := va_free (wc := []) hD hS hA [] rfl
  refine va_calli (va_runV (As := []) (rest := [.int 119]) ⟨hx, hb, hml, hown, hts⟩ (kj_cod l H.size aK aV) (cwV 0 hts g_kj_len_0 rfl rfl rfl (by decide +kernel) ⟨Nat.le_of_ble_eq_true rfl, Nat.le_of_ble_eq_true rfl⟩) ⟨fun a U g mk Z => ⟨Z.1, Z.2.1, exS.same (u := U) (U := U.calling g mk a) rfl rfl Z.2.2⟩, vk_recv hES.2.1 (i := 0) (by decide) hS, fun U hU hW => ⟨rfl, by rw [hU], exS.call hES hW hU hS hFc⟩⟩ rfl rfl hl.1 rfl (lv_room (Nat.le_of_ble_eq_true rfl)) (dk_at dkJ0_length_8abf5_0 4 rfl) ⟨Nat.le_of_ble_eq_true rfl, Nat.le_of_ble_eq_true rfl⟩) hS (fun b _ h => hFc b h) hFc (fun r u t H1 locs ht hvm hw hB hz1 hk1 hS => ?_)
  clear hFc hk1 hz1 hvm ht hB
  generalize H1 = H at hS ⊢
  subst hw
  refine lv_ishr hx hb (dk_at dkJ0_length_8abf5_0 5 rfl) ?_
  refine tp_i (y := 119) (by decide +kernel) ?_
  exact W.iret (v := 119) hx hb hr (fun t ht hW => ⟨⟨119, (), rfl, rfl, trivial⟩, hS.F ht⟩) hS.2.2 (dk_at dkJ0_length_8abf5_0 6 rfl)
def ws_kj_lc : List Cond := .code yJ1_charAt_3b067 cJ1_charAt_3b067 2 (some .char) :: [.methodLink RJ1 9 yJ0_checkIndex_df160, .static yJ0_checkIndex_df160, .initialized RJ0, .code yJ0_checkIndex_df160 cJ0_checkIndex_df160 2 none, .fieldLink RJ0 1053 "jdk/internal/util/Preconditions" "SIOOBE_FORMATTER" "Ljava/util/function/BiFunction;", .methodLink RJ0 1059 yJ3_checkIndex_8e157, .static yJ3_checkIndex_8e157, .initialized RJ3, .code yJ3_checkIndex_8e157 cJ3_checkIndex_8e157 3 (some .int)]
set_option maxRecDepth 20000 in
theorem g_kj_lc_0 : GoodIn ws_kj_lc (va_wsS RJ1 9 yJ0_checkIndex_df160 ws_kj_c0) := goodIn_r _ [1, 2, 3, 4, 5, 6, 7, 8, 9] (by decide +kernel) (by decide +kernel)
set_option maxHeartbeats 4000000 in
set_option maxRecDepth 100000 in
theorem kj_lc (l : Launch) (sz : Nat) (aK aV : Nat) (x : Int32) (h0 : 0 ≤ x.toInt) (h1 : x.toInt < 119) : Met l yJ1_charAt_3b067 ws_kj_lc ({ frames := 2, cells := 0, slots := 0, locals := 43 }) (va_Pc [.ref aV, .int x] (fun U => U.heap.size = sz ∧ exS aK aV (va_A [] sz) U)) (va_Qi (fun (r : Int32) (_ : Unit) => narrow .char (.int r) = .int r ∧ r = oc x.toNatClampNeg) (fun _ _ => True) (va_A [] sz)) 0 0 (va_A [] sz) := by
  refine Met.ofW (cc := cJ1_charAt_3b067) (maxL := 2) (ret := (some .char)) (by decide +kernel) rfl ?_
  intro p e s m args below meth c s₁ B hml hv
  obtain ⟨rfl, hsz, hES⟩ := hv
  have hx := B.exec
  have hb := B.bytes
  have hr := B.returns
  have hts := atoms_spec (ws := ws_kj_lc) B.pre
  have hown : s.vm.findClass RJ1 = some m.cls := findClass_of_methodNamed B.named
  subst hsz
  generalize hAe : va_A [] s.heap.size = A at hES ⊢
  have hA : ∀ b : Nat, s.heap.size ≤ b → A b := fun b h => by rw [← hAe]; exact Or.inr h
  clear hAe
  have hD : va_D A [] := ⟨fun i j p q h => by simp at h, fun k q h => by simp at h⟩
  have hS : va_S A s.heap s.heap [] := va_S.rf
  have hl := lv_entry ([.ref aV, .int x]) (n := 2) (Nat.le_of_ble_eq_true rfl)
  rw [lg_entry_eq]
  generalize (lg_sl ([.ref aV, .int x]) ++ List.replicate (2 - (lg_sl ([.ref aV, .int x])).length) Slot.unset).toArray = ls at hl ⊢
  have hl : lv_has ls 2 [(0, .ref aV), (1, .int x)] := hl
  obtain ⟨H, hHe⟩ : ∃ H : Heap, H = s.heap := ⟨_, rfl⟩
  have hS : va_S A s.heap H [] := by rw [hHe]; exact hS
  rw [← hHe]
  have z1 : (119 : Int32).toInt = 119 := by decide +kernel
  refine lv_iload_n hx hb (dk_at dkJ1_charAt_3b067_0 0 rfl) rfl (lv_at hl 1 rfl) ?_
  refine lv_aload_n hx hb (dk_at dkJ1_charAt_3b067_0 1 rfl) rfl (lv_at hl 0 rfl) ?_
  refine va_tlen (v := 119) hx hb (hES.2.1.1 0 (by decide)).2.2.2 hS (by decide +kernel) (dk_at dkJ1_charAt_3b067_0 2 rfl) ?_
  have hFc := va_free (wc := []) hD hS hA [] rfl
  refine va_callv (va_runS (As := [.int x, .int 119]) (rest := []) ⟨hx, hb, hml, hown, hts⟩ (kj_c0 l H.size aK aV x 119 h0 (by omega)) (va_cwS 2 hts g_kj_lc_0 rfl rfl rfl (by decide +kernel) ⟨Nat.le_of_ble_eq_true rfl, Nat.le_of_ble_eq_true rfl⟩) ⟨fun a U g mk Z => ⟨Z.1, Z.2.1, exS.same (u := U) (U := U.calling g mk a) rfl rfl Z.2.2⟩, fun U hU hW => ⟨rfl, congrArg Array.size hU, exS.call hES hW hU hS hFc⟩⟩ rfl rfl hl.1 rfl (lv_room (Nat.le_of_ble_eq_true rfl)) (dk_at dkJ1_charAt_3b067_0 3 rfl) ⟨Nat.le_of_ble_eq_true rfl, Nat.le_of_ble_eq_true rfl⟩) hS (fun b _ h => hFc b h) hFc (fun u t H1 locs ht hvm hw hB hz1 hk1 hS => ?_)
  clear hFc hk1 hz1 hvm ht hB
  generalize H1 = H at hS ⊢
  refine lv_aload_n hx hb (dk_at dkJ1_charAt_3b067_0 4 rfl) rfl (lv_at hl 0 rfl) ?_
  refine lv_iload_n hx hb (dk_at dkJ1_charAt_3b067_0 5 rfl) rfl (lv_at hl 1 rfl) ?_
  refine va_tb hx hb (hES.2.1.1 0 (by decide)).2.2.2 hS (vp_in_iff.mpr ⟨h0, h1⟩) rfl (dk_at dkJ1_charAt_3b067_0 6 rfl) ?_
  refine lv_sipush (v := 255) hx hb (dk_at dkJ1_charAt_3b067_0 7 rfl) (by decide +kernel) ?_
  refine lv_iand hx hb (dk_at dkJ1_charAt_3b067_0 8 rfl) ?_
  refine lv_i2c hx hb (dk_at dkJ1_charAt_3b067_0 9 rfl) rfl ?_
  exact W.zret hx hb hr (pk_nc _) (fun t ht hW => ⟨⟨_, (), rfl, ⟨pk_nc _, rfl⟩, trivial⟩, hS.F ht⟩) hS.2.2 (dk_at dkJ1_charAt_3b067_0 10 rfl)
def ws_kj_at : List Cond := .code yJ0_charAt_5068e cJ0_charAt_5068e 2 (some .char) :: [.fieldLink RJ0 9 "java/lang/String" "value" "[B", .methodLink RJ0 492 yJ0_isLatin1_aae02, .instanceMethod yJ0_isLatin1_aae02, .selects RJ0 yJ0_isLatin1_aae02 yJ0_isLatin1_aae02, .initialized RJ0, .code yJ0_isLatin1_aae02 cJ0_isLatin1_aae02 1 (some .boolean), .fieldLink RJ0 38 "java/lang/String" "COMPACT_STRINGS" "Z", .fieldLink RJ0 15 "java/lang/String" "coder" "B", .methodLink RJ0 495 yJ1_charAt_3b067, .static yJ1_charAt_3b067, .initialized RJ1, .code yJ1_charAt_3b067 cJ1_charAt_3b067 2 (some .char), .methodLink RJ1 9 yJ0_checkIndex_df160, .static yJ0_checkIndex_df160, .code yJ0_checkIndex_df160 cJ0_checkIndex_df160 2 none, .fieldLink RJ0 1053 "jdk/internal/util/Preconditions" "SIOOBE_FORMATTER" "Ljava/util/function/BiFunction;", .methodLink RJ0 1059 yJ3_checkIndex_8e157, .static yJ3_checkIndex_8e157, .initialized RJ3, .code yJ3_checkIndex_8e157 cJ3_checkIndex_8e157 3 (some .int)]
set_option maxRecDepth 20000 in
theorem g_kj_at_0 : GoodIn ws_kj_at (wsV RJ0 492 RJ0 yJ0_isLatin1_aae02 ws_kj_lat) := goodIn_r _ [2, 3, 4, 5, 6, 7, 8] (by decide +kernel) (by decide +kernel)
set_option maxRecDepth 20000 in
theorem g_kj_at_1 : GoodIn ws_kj_at (va_wsS RJ0 495 yJ1_charAt_3b067 ws_kj_lc) := goodIn_r _ [9, 10, 11, 12, 13, 14, 5, 15, 16, 17, 18, 19, 20] (by decide +kernel) (by decide +kernel)
set_option maxHeartbeats 4000000 in
set_option maxRecDepth 100000 in
theorem kj_at (l : Launch) (sz : Nat) (aK aV : Nat) (x : Int32) (h0 : 0 ≤ x.toInt) (h1 : x.toInt < 119) : Met l yJ0_charAt_5068e ws_kj_at ({ frames := 3, cells := 0, slots := 0, locals := 64 }) (va_Pc [.ref aK, .int x] (fun U => U.heap.size = sz ∧ exS aK aV (va_A [] sz) U)) (va_Qi (fun (r : Int32) (_ : Unit) => narrow .char (.int r) = .int r ∧ r = oc x.toNatClampNeg) (fun _ _ => True) (va_A [] sz)) 0 0 (va_A [] sz) := by
  refine Met.ofW (cc := cJ0_charAt_5068e) (maxL := 2) (ret := (some .char)) (by decide +kernel) rfl ?_
  intro p e s m args below meth c s₁ B hml hv
  obtain ⟨rfl, hsz, hES⟩ := hv
  have hx := B.exec
  have hb := B.bytes
  have hr := B.returns
  have hts := atoms_spec (ws := ws_kj_at) B.pre
  have hown : s.vm.findClass RJ0 = some m.cls := findClass_of_methodNamed B.named
  subst hsz
  generalize hAe : va_A [] s.heap.size = A at hES ⊢
  have hA : ∀ b : Nat, s.heap.size ≤ b → A b := fun b h => by rw [← hAe]; exact Or.inr h
  clear hAe
  have hD : va_D A [] := ⟨fun i j p q h => by simp at h, fun k q h => by simp at h⟩
  have hS : va_S A s.heap s.heap [] := va_S.rf
  have hl := lv_entry ([.ref aK, .int x]) (n := 2) (Nat.le_of_ble_eq_true rfl)
  rw [lg_entry_eq]
  generalize (lg_sl ([.ref aK, .int x]) ++ List.replicate (2 - (lg_sl ([.ref aK, .int x])).length) Slot.unset).toArray = ls at hl ⊢
  have hl : lv_has ls 2 [(0, .ref aK), (1, .int x)] := hl
  obtain ⟨H, hHe⟩ : ∃ H : Heap, H = s.heap := ⟨_, rfl⟩
  have hS : va_S A s.heap H [] := by rw [hHe]; exact hS
  rw [← hHe]
  refine lv_aload_n hx hb (dk_at dkJ0_charAt_5068e_0 0 rfl) rfl (lv_at hl 0 rfl) ?_
  have hFc := va_free (wc := []) hD hS hA [] rfl
  refine va_calli (va_runV (As := []) (rest := []) ⟨hx, hb, hml, hown, hts⟩ (kj_lat l H.size aK aV) (cwV 0 hts g_kj_at_0 rfl rfl rfl (by decide +kernel) ⟨Nat.le_of_ble_eq_true rfl, Nat.le_of_ble_eq_true rfl⟩) ⟨fun a U g mk Z => ⟨Z.1, Z.2.1, exS.same (u := U) (U := U.calling g mk a) rfl rfl Z.2.2⟩, vk_recv hES.2.1 (i := 0) (by decide) hS, fun U hU hW => ⟨rfl, by rw [hU], exS.call hES hW hU hS hFc⟩⟩ rfl rfl hl.1 rfl (lv_room (Nat.le_of_ble_eq_true rfl)) (dk_at dkJ0_charAt_5068e_0 1 rfl) ⟨Nat.le_of_ble_eq_true rfl, Nat.le_of_ble_eq_true rfl⟩) hS (fun b _ h => hFc b h) hFc (fun r u t H1 locs ht hvm hw hB hz1 hk1 hS => ?_)
  clear hFc hk1 hz1 hvm ht hB
  generalize H1 = H at hS ⊢
  subst hw
  refine lv_if_eq (tgt := 16) hx hb (dk_at dkJ0_charAt_5068e_0 2 rfl) (by decide) (fun q => absurd q (by decide +kernel)) (fun _ => ?_)
  refine lv_aload_n hx hb (dk_at dkJ0_charAt_5068e_0 3 rfl) rfl (lv_at hl 0 rfl) ?_
  refine vk_getf hx hb (hES.2.1.1 0 (by decide)).2.2.1 hS hown (hts _ (List.mem_of_getElem? (i := 1) rfl)) (fun _ h => h) (dk_at dkJ0_charAt_5068e_0 4 rfl) ?_
  refine lv_iload_n hx hb (dk_at dkJ0_charAt_5068e_0 5 rfl) rfl (lv_at hl 1 rfl) ?_
  have hFc := va_free (wc := []) hD hS hA [] rfl
  refine va_calli (va_runS (As := [.ref aV, .int x]) (rest := []) ⟨hx, hb, hml, hown, hts⟩ (kj_lc l H.size aK aV x h0 h1) (va_cwS 2 hts g_kj_at_1 rfl rfl rfl (by decide +kernel) ⟨Nat.le_of_ble_eq_true rfl, Nat.le_of_ble_eq_true rfl⟩) ⟨fun a U g mk Z => ⟨Z.1, Z.2.1, exS.same (u := U) (U := U.calling g mk a) rfl rfl Z.2.2⟩, fun U hU hW => ⟨rfl, congrArg Array.size hU, exS.call hES hW hU hS hFc⟩⟩ rfl rfl hl.1 rfl (lv_room (Nat.le_of_ble_eq_true rfl)) (dk_at dkJ0_charAt_5068e_0 6 rfl) ⟨Nat.le_of_ble_eq_true rfl, Nat.le_of_ble_eq_true rfl⟩) hS (fun b _ h => hFc b h) hFc (fun r u t H1 locs ht hvm hw hB hz1 hk1 hS => ?_)
  clear hFc hk1 hz1 hvm ht hB
  generalize H1 = H at hS ⊢
  exact W.zret (v := r) hx hb hr hw.1 (fun t ht hW => ⟨⟨r, (), rfl, hw, trivial⟩, hS.F ht⟩) hS.2.2 (dk_at dkJ0_charAt_5068e_0 7 rfl)
def ws_k_X7_init_1 : List Cond := .code yX7_init cX7_init 1 none :: ([.methodLink RX7 3 objectInit, .instanceMethod objectInit, .code objectInit ⟨#[0xb1]⟩ 1 none, .arrayClass .byte, .fieldLink RX7 9 "StackKeys$Tape" "bytes" "[B", .fieldLink RX7 15 "StackKeys$Tape" "size" "I"] ++ wsX70)
set_option maxHeartbeats 4000000 in
set_option maxRecDepth 100000 in
theorem k_X7_init_1 (l : Launch) (dC : Nat → ClassId) (dI : Nat → Nat → Nat) (cB cI cJ cZ cQ : ClassId) (sz : Nat) (a0 : Nat) : Met l yX7_init ws_k_X7_init_1 ({ frames := 1, cells := 1, slots := 1600, locals := 12 }) (va_Pc [.ref a0] (fun U => U.heap.size = sz ∧ va_P (dC, dI) vwCl [(a0, .inr (7, [.null, .int 0]))] U.heap ∧ va_K (dC, dI) vwCl (tyA cB cI cJ cZ cQ) U ∧ va_D (fun _ => True) [(a0, .inr (7, [.null, .int 0]))])) (va_Qv (fun _ : (Nat → Nat) => True) (fun (u : (Nat → Nat)) t => va_P (dC, dI) vwCl [(a0, .inr (7, [.ref (u 0), .int 0])), ((u 0), .inl (cB, 1600, .inl (fun _ => 0)))] t.heap ∧ va_K (dC, dI) vwCl (tyA cB cI cJ cZ cQ) t ∧ va_D (va_A [(a0, .inr (7, [.null, .int 0]))] sz) [(a0, .inr (7, [.ref (u 0), .int 0])), ((u 0), .inl (cB, 1600, .inl (fun _ => 0)))]) (va_A [(a0, .inr (7, [.null, .int 0]))] sz)) 1 1600 (va_A [(a0, .inr (7, [.null, .int 0]))] sz) := by
  refine Met.ofW (cc := cX7_init) (maxL := 1) (ret := none) (by decide +kernel) rfl ?_
  intro p e s m args below meth c s₁ B hml hv
  obtain ⟨rfl, hsz, hP, hK, hD0⟩ := hv
  have hx := B.exec
  have hb := B.bytes
  have hr := B.returns
  have hts := atoms_spec (ws := ws_k_X7_init_1) B.pre
  have hown : s.vm.findClass RX7 = some m.cls := findClass_of_methodNamed B.named
  have hin : meth.name = "<init>" := (name_of_methodNamed B.named B.method).1
  have hiX7 : ∀ w ∈ u_ws RX7 TX7 2, w ∈ ws_k_X7_init_1 := fun w h => List.mem_cons_of_mem _ (List.mem_append_right _ h)
  subst hsz
  have hD := hD0.self (sz := s.heap.size)
  generalize hAe : va_A [(a0, .inr (7, [.null, .int 0]))] s.heap.size = A at hD ⊢
  have hA : ∀ b : Nat, s.heap.size ≤ b → A b := fun b h => by rw [← hAe]; exact Or.inr h
  clear hD0 hAe
  have hS : va_S A s.heap s.heap [] := va_S.rf
  have hl := lv_entry ([.ref a0]) (n := 1) (Nat.le_of_ble_eq_true rfl)
  rw [lg_entry_eq]
  generalize (lg_sl ([.ref a0]) ++ List.replicate (1 - (lg_sl ([.ref a0])).length) Slot.unset).toArray = ls at hl ⊢
  have hl : lv_has ls 1 [(0, .ref a0)] := hl
  obtain ⟨H, hHe⟩ : ∃ H : Heap, H = s.heap := ⟨_, rfl⟩
  rw [← hHe] at hP
  have hS : va_S A s.heap H [] := by rw [hHe]; exact hS
  rw [← hHe]
  refine lv_aload_n hx hb (dk_at dkX7_init_0 0 rfl) rfl (lv_at hl 0 rfl) ?_
  refine W.objInit hx hb hown (hts _ (List.mem_of_getElem? (i := 1) rfl)) (hts _ (List.mem_of_getElem? (i := 2) rfl)) (hts _ (List.mem_of_getElem? (i := 3) rfl)) rfl (by rw [hml]; exact hl.1) rfl (dk_at dkX7_init_0 1 rfl) (Nat.le_of_ble_eq_true rfl) (Nat.le_of_ble_eq_true rfl) ?_
  refine W.eq (g2 := F0 m 4 ls []) rfl ?_
  refine lv_aload_n hx hb (dk_at dkX7_init_0 2 rfl) rfl (lv_at hl 0 rfl) ?_
  refine lv_sipush (v := 1600) hx hb (dk_at dkX7_init_0 3 rfl) (by decide +kernel) ?_
  refine va_newaC (ty := .byte) (a0 := (1600, .inl (fun _ => 0))) (N' := 1600) hx hb (hts _ (List.mem_of_getElem? (i := 4) rfl)) rfl hK hP hD hS hA 0 rfl (fun _ => rfl) (by decide +kernel) (by decide +kernel) (by decide +kernel) (Nat.le_of_ble_eq_true rfl) (Nat.le_of_ble_eq_true rfl) (dk_at dkX7_init_0 4 rfl) (fun q1 H hP hD hS => ?_)
  have hP : va_P (dC, dI) vwCl [(a0, .inr (7, [.null, .int 0])), (q1, .inl (cB, 1600, .inl (fun _ => 0)))] H := hP
  have hD : va_D A [(a0, .inr (7, [.null, .int 0])), (q1, .inl (cB, 1600, .inl (fun _ => 0)))] := hD
  refine W.widen (k := 1) (n := 1600) (by omega) (by omega) ?_
  refine va_putF (D := (dC, dI)) (ci := 7) (v := .ref q1) (ty := .array .byte) (C := RX7) (T := TX7) (N := 2) hx hb hts hiX7 tyX7 tyX7_ok nmX7 hown hK hP hD hS 0 rfl rfl 0 (by decide) (hts _ (List.mem_of_getElem? (i := 5) rfl)) (fun _ h9 => h9) rfl hin rfl (by decide +kernel) rfl rfl (Nat.le_of_ble_eq_true rfl) (dk_at dkX7_init_0 5 rfl) (fun H locs hP hD hS => ?_)
  have hP : va_P (dC, dI) vwCl [(a0, .inr (7, [.ref q1, .int 0])), (q1, .inl (cB, 1600, .inl (fun _ => 0)))] H := hP
  have hD : va_D A [(a0, .inr (7, [.ref q1, .int 0])), (q1, .inl (cB, 1600, .inl (fun _ => 0)))] := hD
  refine lv_aload_n hx hb (dk_at dkX7_init_0 6 rfl) rfl (lv_at hl 0 rfl) ?_
  refine lv_iconst (v := 0) hx hb (dk_at dkX7_init_0 7 rfl) (by decide +kernel) ?_
  refine va_put (D := (dC, dI)) (ci := 7) (v := .int 0) (ty := .int) (C := RX7) (T := TX7) (N := 2) hx hb hts hiX7 tyX7 tyX7_ok nmX7 hown hK hP hD hS 0 rfl rfl 1 (by decide) (hts _ (List.mem_of_getElem? (i := 6) rfl)) (fun _ h9 => h9) rfl (by decide +kernel) rfl rfl (Nat.le_of_ble_eq_true rfl) (dk_at dkX7_init_0 8 rfl) (fun H locs hP hD hS => ?_)
  have hP : va_P (dC, dI) vwCl [(a0, .inr (7, [.ref q1, .int 0])), (q1, .inl (cB, 1600, .inl (fun _ => 0)))] H := hP
  have hD : va_D A [(a0, .inr (7, [.ref q1, .int 0])), (q1, .inl (cB, 1600, .inl (fun _ => 0)))] := hD
  have hP9 := hP.sub (ws' := [(a0, .inr (7, [.ref q1, .int 0])), (q1, .inl (cB, 1600, .inl (fun _ => 0)))]) [0, 1] rfl
  have hD9 := hD.sub (ws' := [(a0, .inr (7, [.ref q1, .int 0])), (q1, .inl (cB, 1600, .inl (fun _ => 0)))]) [0, 1] (by decide) rfl
  exact W.vret hx hb hr (fun t ht hW => ⟨⟨(fun k => ([q1] : List Nat).getD k 0), rfl, trivial, by rw [ht]; exact hP9, va_K.moved hW.alike hK, hD9⟩, hS.F ht⟩) hS.2.2 (dk_at dkX7_init_0 9 rfl)
def ws_k_X3_init_2 : List Cond := .code yX3_init cX3_init 2 none :: ([.methodLink RX3 3 objectInit, .instanceMethod objectInit, .code objectInit ⟨#[0xb1]⟩ 1 none, .fieldLink RX3 9 "StackKeys$Lexer" "at" "I", .fieldLink RX3 15 "StackKeys$Lexer" "kind" "I", .fieldLink RX3 18 "StackKeys$Lexer" "start" "I", .fieldLink RX3 21 "StackKeys$Lexer" "value" "I", .fieldLink RX3 24 "StackKeys$Lexer" "lastEnd" "I", .fieldLink RX3 27 "StackKeys$Lexer" "ahead" "Z", .fieldLink RX3 31 "StackKeys$Lexer" "tape" "LStackKeys$Tape;"] ++ wsX30)
set_option maxHeartbeats 4000000 in
set_option maxRecDepth 100000 in
theorem k_X3_init_2 (l : Launch) (dC : Nat → ClassId) (dI : Nat → Nat → Nat) (cB cI cJ cZ cQ : ClassId) (sz : Nat) (a0 a1 : Nat) : Met l yX3_init ws_k_X3_init_2 ({ frames := 1, cells := 0, slots := 0, locals := 12 }) (va_Pc [.ref a0, .ref a1] (fun U => U.heap.size = sz ∧ va_P (dC, dI) vwCl [(a0, .inr (3, [.null, .int 0, .int 0, .int 0, .int 0, .int 0, .int 0]))] U.heap ∧ va_K (dC, dI) vwCl (tyA cB cI cJ cZ cQ) U ∧ va_D (fun _ => True) [(a0, .inr (3, [.null, .int 0, .int 0, .int 0, .int 0, .int 0, .int 0]))])) (va_Qv (fun _ : Unit => True) (fun (u : Unit) t => va_P (dC, dI) vwCl [(a0, .inr (3, [.ref a1, .int 0, .int 0, .int 0, .int 0, .int (-1), .int 0]))] t.heap ∧ va_K (dC, dI) vwCl (tyA cB cI cJ cZ cQ) t ∧ va_D (va_A [(a0, .inr (3, [.null, .int 0, .int 0, .int 0, .int 0, .int 0, .int 0]))] sz) [(a0, .inr (3, [.ref a1, .int 0, .int 0, .int 0, .int 0, .int (-1), .int 0]))]) (va_A [(a0, .inr (3, [.null, .int 0, .int 0, .int 0, .int 0, .int 0, .int 0]))] sz)) 0 0 (va_A [(a0, .inr (3, [.null, .int 0, .int 0, .int 0, .int 0, .int 0, .int 0]))] sz) := by
  refine Met.ofW (cc := cX3_init) (maxL := 2) (ret := none) (by decide +kernel) rfl ?_
  intro p e s m args below meth c s₁ B hml hv
  obtain ⟨rfl, hsz, hP, hK, hD0⟩ := hv
  have hx := B.exec
  have hb := B.bytes
  have hr := B.returns
  have hts := atoms_spec (ws := ws_k_X3_init_2) B.pre
  have hown : s.vm.findClass RX3 = some m.cls := findClass_of_methodNamed B.named
  have hin : meth.name = "<init>" := (name_of_methodNamed B.named B.method).1
  have hiX3 : ∀ w ∈ u_ws RX3 TX3 7, w ∈ ws_k_X3_init_2 := fun w h => List.mem_cons_of_mem _ (List.mem_append_right _ h)
  subst hsz
  have hD := hD0.self (sz := s.heap.size)
  generalize hAe : va_A [(a0, .inr (3, [.null, .int 0, .int 0, .int 0, .int 0, .int 0, .int 0]))] s.heap.size = A at hD ⊢
  have hA : ∀ b : Nat, s.heap.size ≤ b → A b := fun b h => by rw [← hAe]; exact Or.inr h
  clear hD0 hAe
  have hS : va_S A s.heap s.heap [] := va_S.rf
  have hl := lv_entry ([.ref a0, .ref a1]) (n := 2) (Nat.le_of_ble_eq_true rfl)
  rw [lg_entry_eq]
  generalize (lg_sl ([.ref a0, .ref a1]) ++ List.replicate (2 - (lg_sl ([.ref a0, .ref a1])).length) Slot.unset).toArray = ls at hl ⊢
  have hl : lv_has ls 2 [(0, .ref a0), (1, .ref a1)] := hl
  obtain ⟨H, hHe⟩ : ∃ H : Heap, H = s.heap := ⟨_, rfl⟩
  rw [← hHe] at hP
  have hS : va_S A s.heap H [] := by rw [hHe]; exact hS
  rw [← hHe]
  refine lv_aload_n hx hb (dk_at dkX3_init_0 0 rfl) rfl (lv_at hl 0 rfl) ?_
  refine W.objInit hx hb hown (hts _ (List.mem_of_getElem? (i := 1) rfl)) (hts _ (List.mem_of_getElem? (i := 2) rfl)) (hts _ (List.mem_of_getElem? (i := 3) rfl)) rfl (by rw [hml]; exact hl.1) rfl (dk_at dkX3_init_0 1 rfl) (Nat.le_of_ble_eq_true rfl) (Nat.le_of_ble_eq_true rfl) ?_
  refine W.eq (g2 := F0 m 4 ls []) rfl ?_
  refine lv_aload_n hx hb (dk_at dkX3_init_0 2 rfl) rfl (lv_at hl 0 rfl) ?_
  refine lv_iconst (v := 0) hx hb (dk_at dkX3_init_0 3 rfl) (by decide +kernel) ?_
  refine va_put (D := (dC, dI)) (ci := 3) (v := .int 0) (ty := .int) (C := RX3) (T := TX3) (N := 7) hx hb hts hiX3 tyX3 tyX3_ok nmX3 hown hK hP hD hS 0 rfl rfl 1 (by decide) (hts _ (List.mem_of_getElem? (i := 4) rfl)) (fun _ h9 => h9) rfl (by decide +kernel) rfl rfl (Nat.le_of_ble_eq_true rfl) (dk_at dkX3_init_0 4 rfl) (fun H locs hP hD hS => ?_)
  have hP : va_P (dC, dI) vwCl [(a0, .inr (3, [.null, .int 0, .int 0, .int 0, .int 0, .int 0, .int 0]))] H := hP
  have hD : va_D A [(a0, .inr (3, [.null, .int 0, .int 0, .int 0, .int 0, .int 0, .int 0]))] := hD
  refine lv_aload_n hx hb (dk_at dkX3_init_0 5 rfl) rfl (lv_at hl 0 rfl) ?_
  refine lv_iconst (v := 0) hx hb (dk_at dkX3_init_0 6 rfl) (by decide +kernel) ?_
  refine va_put (D := (dC, dI)) (ci := 3) (v := .int 0) (ty := .int) (C := RX3) (T := TX3) (N := 7) hx hb hts hiX3 tyX3 tyX3_ok nmX3 hown hK hP hD hS 0 rfl rfl 2 (by decide) (hts _ (List.mem_of_getElem? (i := 5) rfl)) (fun _ h9 => h9) rfl (by decide +kernel) rfl rfl (Nat.le_of_ble_eq_true rfl) (dk_at dkX3_init_0 7 rfl) (fun H locs hP hD hS => ?_)
  have hP : va_P (dC, dI) vwCl [(a0, .inr (3, [.null, .int 0, .int 0, .int 0, .int 0, .int 0, .int 0]))] H := hP
  have hD : va_D A [(a0, .inr (3, [.null, .int 0, .int 0, .int 0, .int 0, .int 0, .int 0]))] := hD
  refine lv_aload_n hx hb (dk_at dkX3_init_0 8 rfl) rfl (lv_at hl 0 rfl) ?_
  refine lv_iconst (v := 0) hx hb (dk_at dkX3_init_0 9 rfl) (by decide +kernel) ?_
  refine va_put (D := (dC, dI)) (ci := 3) (v := .int 0) (ty := .int) (C := RX3) (T := TX3) (N := 7) hx hb hts hiX3 tyX3 tyX3_ok nmX3 hown hK hP hD hS 0 rfl rfl 3 (by decide) (hts _ (List.mem_of_getElem? (i := 6) rfl)) (fun _ h9 => h9) rfl (by decide +kernel) rfl rfl (Nat.le_of_ble_eq_true rfl) (dk_at dkX3_init_0 10 rfl) (fun H locs hP hD hS => ?_)
  have hP : va_P (dC, dI) vwCl [(a0, .inr (3, [.null, .int 0, .int 0, .int 0, .int 0, .int 0, .int 0]))] H := hP
  have hD : va_D A [(a0, .inr (3, [.null, .int 0, .int 0, .int 0, .int 0, .int 0, .int 0]))] := hD
  refine lv_aload_n hx hb (dk_at dkX3_init_0 11 rfl) rfl (lv_at hl 0 rfl) ?_
  refine lv_iconst (v := 0) hx hb (dk_at dkX3_init_0 12 rfl) (by decide +kernel) ?_
  refine va_put (D := (dC, dI)) (ci := 3) (v := .int 0) (ty := .int) (C := RX3) (T := TX3) (N := 7) hx hb hts hiX3 tyX3 tyX3_ok nmX3 hown hK hP hD hS 0 rfl rfl 4 (by decide) (hts _ (List.mem_of_getElem? (i := 7) rfl)) (fun _ h9 => h9) rfl (by decide +kernel) rfl rfl (Nat.le_of_ble_eq_true rfl) (dk_at dkX3_init_0 13 rfl) (fun H locs hP hD hS => ?_)
  have hP : va_P (dC, dI) vwCl [(a0, .inr (3, [.null, .int 0, .int 0, .int 0, .int 0, .int 0, .int 0]))] H := hP
  have hD : va_D A [(a0, .inr (3, [.null, .int 0, .int 0, .int 0, .int 0, .int 0, .int 0]))] := hD
  refine lv_aload_n hx hb (dk_at dkX3_init_0 14 rfl) rfl (lv_at hl 0 rfl) ?_
  refine lv_iconst (v := (-1)) hx hb (dk_at dkX3_init_0 15 rfl) (by decide +kernel) ?_
  refine va_put (D := (dC, dI)) (ci := 3) (v := .int (-1)) (ty := .int) (C := RX3) (T := TX3) (N := 7) hx hb hts hiX3 tyX3 tyX3_ok nmX3 hown hK hP hD hS 0 rfl rfl 5 (by decide) (hts _ (List.mem_of_getElem? (i := 8) rfl)) (fun _ h9 => h9) rfl (by decide +kernel) rfl rfl (Nat.le_of_ble_eq_true rfl) (dk_at dkX3_init_1 0 rfl) (fun H locs hP hD hS => ?_)
  have hP : va_P (dC, dI) vwCl [(a0, .inr (3, [.null, .int 0, .int 0, .int 0, .int 0, .int (-1), .int 0]))] H := hP
  have hD : va_D A [(a0, .inr (3, [.null, .int 0, .int 0, .int 0, .int 0, .int (-1), .int 0]))] := hD
  refine lv_aload_n hx hb (dk_at dkX3_init_1 1 rfl) rfl (lv_at hl 0 rfl) ?_
  refine lv_iconst (v := 0) hx hb (dk_at dkX3_init_1 2 rfl) (by decide +kernel) ?_
  refine va_put (D := (dC, dI)) (ci := 3) (v := .int 0) (ty := .boolean) (C := RX3) (T := TX3) (N := 7) hx hb hts hiX3 tyX3 tyX3_ok nmX3 hown hK hP hD hS 0 rfl rfl 6 (by decide) (hts _ (List.mem_of_getElem? (i := 9) rfl)) (fun _ h9 => h9) rfl (by decide +kernel) rfl rfl (Nat.le_of_ble_eq_true rfl) (dk_at dkX3_init_1 3 rfl) (fun H locs hP hD hS => ?_)
  have hP : va_P (dC, dI) vwCl [(a0, .inr (3, [.null, .int 0, .int 0, .int 0, .int 0, .int (-1), .int 0]))] H := hP
  have hD : va_D A [(a0, .inr (3, [.null, .int 0, .int 0, .int 0, .int 0, .int (-1), .int 0]))] := hD
  refine lv_aload_n hx hb (dk_at dkX3_init_1 4 rfl) rfl (lv_at hl 0 rfl) ?_
  refine lv_aload_n hx hb (dk_at dkX3_init_1 5 rfl) rfl (lv_at hl 1 rfl) ?_
  refine va_putF (D := (dC, dI)) (ci := 3) (v := .ref a1) (ty := .object "StackKeys$Tape") (C := RX3) (T := TX3) (N := 7) hx hb hts hiX3 tyX3 tyX3_ok nmX3 hown hK hP hD hS 0 rfl rfl 0 (by decide) (hts _ (List.mem_of_getElem? (i := 10) rfl)) (fun _ h9 => h9) rfl hin rfl (by decide +kernel) rfl rfl (Nat.le_of_ble_eq_true rfl) (dk_at dkX3_init_1 6 rfl) (fun H locs hP hD hS => ?_)
  have hP : va_P (dC, dI) vwCl [(a0, .inr (3, [.ref a1, .int 0, .int 0, .int 0, .int 0, .int (-1), .int 0]))] H := hP
  have hD : va_D A [(a0, .inr (3, [.ref a1, .int 0, .int 0, .int 0, .int 0, .int (-1), .int 0]))] := hD
  have hP9 := hP.sub (ws' := [(a0, .inr (3, [.ref a1, .int 0, .int 0, .int 0, .int 0, .int (-1), .int 0]))]) [0] rfl
  have hD9 := hD.sub (ws' := [(a0, .inr (3, [.ref a1, .int 0, .int 0, .int 0, .int 0, .int (-1), .int 0]))]) [0] (by decide) rfl
  exact W.vret hx hb hr (fun t ht hW => ⟨⟨(), rfl, trivial, by rw [ht]; exact hP9, va_K.moved hW.alike hK, hD9⟩, hS.F ht⟩) hS.2.2 (dk_at dkX3_init_1 7 rfl)
def ws_k_X5_init_3 : List Cond := .code yX5_init cX5_init 6 none :: ([.methodLink RX5 3 objectInit, .instanceMethod objectInit, .code objectInit ⟨#[0xb1]⟩ 1 none, .arrayClass .int, .fieldLink RX5 9 "StackKeys$Reader" "own" "[I", .fieldLink RX5 15 "StackKeys$Reader" "fault" "I", .fieldLink RX5 19 "StackKeys$Reader" "faultPlace" "I", .fieldLink RX5 22 "StackKeys$Reader" "bracketsOpen" "I", .classLink RX5 25 RX3, .instantiable RX3 7, .initialized RX3, .code yX3_init cX3_init 2 none, .methodLink RX3 3 objectInit, .fieldLink RX3 9 "StackKeys$Lexer" "at" "I", .fieldLink RX3 15 "StackKeys$Lexer" "kind" "I", .fieldLink RX3 18 "StackKeys$Lexer" "start" "I", .fieldLink RX3 21 "StackKeys$Lexer" "value" "I", .fieldLink RX3 24 "StackKeys$Lexer" "lastEnd" "I", .fieldLink RX3 27 "StackKeys$Lexer" "ahead" "Z", .fieldLink RX3 31 "StackKeys$Lexer" "tape" "LStackKeys$Tape;", .methodLink RX5 27 yX3_init, .instanceMethod yX3_init, .fieldLink RX5 30 "StackKeys$Reader" "lexer" "LStackKeys$Lexer;", .methodLink RX5 36 yJ0_length_8abf5, .instanceMethod yJ0_length_8abf5, .selects RJ0 yJ0_length_8abf5 yJ0_length_8abf5, .initialized RJ0, .code yJ0_length_8abf5 cJ0_length_8abf5 1 (some .int), .fieldLink RJ0 9 "java/lang/String" "value" "[B", .methodLink RJ0 335 yJ0_coder_7d493, .instanceMethod yJ0_coder_7d493, .selects RJ0 yJ0_coder_7d493 yJ0_coder_7d493, .code yJ0_coder_7d493 cJ0_coder_7d493 1 (some .byte), .fieldLink RJ0 38 "java/lang/String" "COMPACT_STRINGS" "Z", .fieldLink RJ0 15 "java/lang/String" "coder" "B", .methodLink RX5 42 yJ0_charAt_5068e, .instanceMethod yJ0_charAt_5068e, .selects RJ0 yJ0_charAt_5068e yJ0_charAt_5068e, .code yJ0_charAt_5068e cJ0_charAt_5068e 2 (some .char), .methodLink RJ0 492 yJ0_isLatin1_aae02, .instanceMethod yJ0_isLatin1_aae02, .selects RJ0 yJ0_isLatin1_aae02 yJ0_isLatin1_aae02, .code yJ0_isLatin1_aae02 cJ0_isLatin1_aae02 1 (some .boolean), .methodLink RJ0 495 yJ1_charAt_3b067, .static yJ1_charAt_3b067, .initialized RJ1, .code yJ1_charAt_3b067 cJ1_charAt_3b067 2 (some .char), .methodLink RJ1 9 yJ0_checkIndex_df160, .static yJ0_checkIndex_df160, .code yJ0_checkIndex_df160 cJ0_checkIndex_df160 2 none, .fieldLink RJ0 1053 "jdk/internal/util/Preconditions" "SIOOBE_FORMATTER" "Ljava/util/function/BiFunction;", .methodLink RJ0 1059 yJ3_checkIndex_8e157, .static yJ3_checkIndex_8e157, .initialized RJ3, .code yJ3_checkIndex_8e157 cJ3_checkIndex_8e157 3 (some .int)] ++ wsX50 ++ wsX30)
set_option maxRecDepth 20000 in
theorem g_k_X5_init_3_0 : GoodIn ws_k_X5_init_3 (ws_k_X3_init_2) := goodIn_r _ [12, 13, 2, 3, 14, 15, 16, 17, 18, 19, 20, 61, 62, 63, 64, 65, 66, 67] (by decide +kernel) (by decide +kernel)
set_option maxRecDepth 20000 in
theorem g_k_X5_init_3_1 : GoodIn ws_k_X5_init_3 (wsV RX5 36 RJ0 yJ0_length_8abf5 ws_kj_len) := goodIn_r _ [24, 25, 26, 27, 28, 29, 30, 31, 32, 27, 33, 34, 35] (by decide +kernel) (by decide +kernel)
set_option maxRecDepth 20000 in
theorem g_k_X5_init_3_2 : GoodIn ws_k_X5_init_3 (wsV RX5 36 RJ0 yJ0_length_8abf5 ws_kj_len) := goodIn_r _ [24, 25, 26, 27, 28, 29, 30, 31, 32, 27, 33, 34, 35] (by decide +kernel) (by decide +kernel)
set_option maxRecDepth 20000 in
theorem g_k_X5_init_3_3 : GoodIn ws_k_X5_init_3 (wsV RX5 42 RJ0 yJ0_charAt_5068e ws_kj_at) := goodIn_r _ [36, 37, 38, 27, 39, 29, 40, 41, 42, 27, 43, 34, 35, 44, 45, 46, 47, 48, 49, 50, 51, 52, 53, 54, 55] (by decide +kernel) (by decide +kernel)
set_option maxHeartbeats 4000000 in
set_option maxRecDepth 100000 in
theorem k_X5_init_3 (l : Launch) (dC : Nat → ClassId) (dI : Nat → Nat → Nat) (cB cI cJ cZ cQ : ClassId) (sz : Nat) (a0 a1 : Nat) (aK aV : Nat) : Met l yX5_init ws_k_X5_init_3 ({ frames := 4, cells := 2, slots := 33, locals := 85 }) (va_Pc [.ref a0, .ref a1] (fun U => U.heap.size = sz ∧ va_P (dC, dI) vwCl [(a0, .inr (5, [.null, .null, .int 0, .int 0, .int 0]))] U.heap ∧ va_K (dC, dI) vwCl (tyA cB cI cJ cZ cQ) U ∧ va_D (fun _ => True) [(a0, .inr (5, [.null, .null, .int 0, .int 0, .int 0]))] ∧ exS aK aV (va_A [(a0, .inr (5, [.null, .null, .int 0, .int 0, .int 0]))] sz) U)) (va_Qv (fun u : ((Nat → Nat) × (Nat → Int32)) => OWf u.2) (fun (u : ((Nat → Nat) × (Nat → Int32))) t => va_P (dC, dI) vwCl [(a0, .inr (5, [.ref (u.1 1), .ref (u.1 0), .int 0, .int (-1), .int 0])), ((u.1 0), .inl (cI, 26, .inl u.2)), ((u.1 1), .inr (3, [.ref a1, .int 0, .int 0, .int 0, .int 0, .int (-1), .int 0]))] t.heap ∧ va_K (dC, dI) vwCl (tyA cB cI cJ cZ cQ) t ∧ va_D (va_A [(a0, .inr (5, [.null, .null, .int 0, .int 0, .int 0]))] sz) [(a0, .inr (5, [.ref (u.1 1), .ref (u.1 0), .int 0, .int (-1), .int 0])), ((u.1 0), .inl (cI, 26, .inl u.2)), ((u.1 1), .inr (3, [.ref a1, .int 0, .int 0, .int 0, .int 0, .int (-1), .int 0]))]) (va_A [(a0, .inr (5, [.null, .null, .int 0, .int 0, .int 0]))] sz)) 2 33 (va_A [(a0, .inr (5, [.null, .null, .int 0, .int 0, .int 0]))] sz) := by
  refine Met.ofW (cc := cX5_init) (maxL := 6) (ret := none) (by decide +kernel) rfl ?_
  intro p e s m args below meth c s₁ B hml hv
  obtain ⟨rfl, hsz, hP, hK, hD0, hES⟩ := hv
  have hx := B.exec
  have hb := B.bytes
  have hr := B.returns
  have hts := atoms_spec (ws := ws_k_X5_init_3) B.pre
  have hown : s.vm.findClass RX5 = some m.cls := findClass_of_methodNamed B.named
  have hin : meth.name = "<init>" := (name_of_methodNamed B.named B.method).1
  have hiX5 : ∀ w ∈ u_ws RX5 TX5 5, w ∈ ws_k_X5_init_3 := fun w h => List.mem_cons_of_mem _ (List.mem_append_left _ (List.mem_append_right _ h))
  have hiX3 : ∀ w ∈ u_ws RX3 TX3 7, w ∈ ws_k_X5_init_3 := fun w h => List.mem_cons_of_mem _ (List.mem_append_right _ h)
  subst hsz
  have hD := hD0.self (sz := s.heap.size)
  generalize hAe : va_A [(a0, .inr (5, [.null, .null, .int 0, .int 0, .int 0]))] s.heap.size = A at hD hES ⊢
  have hA : ∀ b : Nat, s.heap.size ≤ b → A b := fun b h => by rw [← hAe]; exact Or.inr h
  clear hD0 hAe
  have hS : va_S A s.heap s.heap [] := va_S.rf
  have hl := lv_entry ([.ref a0, .ref a1]) (n := 6) (Nat.le_of_ble_eq_true rfl)
  rw [lg_entry_eq]
  generalize (lg_sl ([.ref a0, .ref a1]) ++ List.replicate (6 - (lg_sl ([.ref a0, .ref a1])).length) Slot.unset).toArray = ls at hl ⊢
  have hl : lv_has ls 6 [(0, .ref a0), (1, .ref a1)] := hl
  obtain ⟨H, hHe⟩ : ∃ H : Heap, H = s.heap := ⟨_, rfl⟩
  rw [← hHe] at hP
  have hS : va_S A s.heap H [] := by rw [hHe]; exact hS
  rw [← hHe]
  refine lv_aload_n hx hb (dk_at dkX5_init_0 0 rfl) rfl (lv_at hl 0 rfl) ?_
  refine W.objInit hx hb hown (hts _ (List.mem_of_getElem? (i := 1) rfl)) (hts _ (List.mem_of_getElem? (i := 2) rfl)) (hts _ (List.mem_of_getElem? (i := 3) rfl)) rfl (by rw [hml]; exact hl.1) rfl (dk_at dkX5_init_0 1 rfl) (Nat.le_of_ble_eq_true rfl) (Nat.le_of_ble_eq_true rfl) ?_
  refine W.eq (g2 := F0 m 4 ls []) rfl ?_
  refine lv_aload_n hx hb (dk_at dkX5_init_0 2 rfl) rfl (lv_at hl 0 rfl) ?_
  refine lv_bipush (v := 26) hx hb (dk_at dkX5_init_0 3 rfl) (by decide +kernel) ?_
  refine va_newaC (ty := .int) (a0 := (26, .inl (fun _ => 0))) (N' := 26) hx hb (hts _ (List.mem_of_getElem? (i := 4) rfl)) rfl hK hP hD hS hA 1 rfl (fun _ => rfl) (by decide +kernel) (by decide +kernel) (by decide +kernel) (Nat.le_of_ble_eq_true rfl) (Nat.le_of_ble_eq_true rfl) (dk_at dkX5_init_0 4 rfl) (fun q1 H hP hD hS => ?_)
  have hP : va_P (dC, dI) vwCl [(a0, .inr (5, [.null, .null, .int 0, .int 0, .int 0])), (q1, .inl (cI, 26, .inl (fun _ => 0)))] H := hP
  have hD : va_D A [(a0, .inr (5, [.null, .null, .int 0, .int 0, .int 0])), (q1, .inl (cI, 26, .inl (fun _ => 0)))] := hD
  refine W.widen (k := 1) (n := 26) (by omega) (by omega) ?_
  refine va_putF (D := (dC, dI)) (ci := 5) (v := .ref q1) (ty := .array .int) (C := RX5) (T := TX5) (N := 5) hx hb hts hiX5 tyX5 tyX5_ok nmX5 hown hK hP hD hS 0 rfl rfl 1 (by decide) (hts _ (List.mem_of_getElem? (i := 5) rfl)) (fun _ h9 => h9) rfl hin rfl (by decide +kernel) rfl rfl (Nat.le_of_ble_eq_true rfl) (dk_at dkX5_init_0 5 rfl) (fun H locs hP hD hS => ?_)
  have hP : va_P (dC, dI) vwCl [(a0, .inr (5, [.null, .ref q1, .int 0, .int 0, .int 0])), (q1, .inl (cI, 26, .inl (fun _ => 0)))] H := hP
  have hD : va_D A [(a0, .inr (5, [.null, .ref q1, .int 0, .int 0, .int 0])), (q1, .inl (cI, 26, .inl (fun _ => 0)))] := hD
  refine lv_aload_n hx hb (dk_at dkX5_init_0 6 rfl) rfl (lv_at hl 0 rfl) ?_
  refine lv_iconst (v := 0) hx hb (dk_at dkX5_init_0 7 rfl) (by decide +kernel) ?_
  refine va_put (D := (dC, dI)) (ci := 5) (v := .int 0) (ty := .int) (C := RX5) (T := TX5) (N := 5) hx hb hts hiX5 tyX5 tyX5_ok nmX5 hown hK hP hD hS 0 rfl rfl 2 (by decide) (hts _ (List.mem_of_getElem? (i := 6) rfl)) (fun _ h9 => h9) rfl (by decide +kernel) rfl rfl (Nat.le_of_ble_eq_true rfl) (dk_at dkX5_init_0 8 rfl) (fun H locs hP hD hS => ?_)
  have hP : va_P (dC, dI) vwCl [(a0, .inr (5, [.null, .ref q1, .int 0, .int 0, .int 0])), (q1, .inl (cI, 26, .inl (fun _ => 0)))] H := hP
  have hD : va_D A [(a0, .inr (5, [.null, .ref q1, .int 0, .int 0, .int 0])), (q1, .inl (cI, 26, .inl (fun _ => 0)))] := hD
  refine lv_aload_n hx hb (dk_at dkX5_init_0 9 rfl) rfl (lv_at hl 0 rfl) ?_
  refine lv_iconst (v := (-1)) hx hb (dk_at dkX5_init_0 10 rfl) (by decide +kernel) ?_
  refine va_put (D := (dC, dI)) (ci := 5) (v := .int (-1)) (ty := .int) (C := RX5) (T := TX5) (N := 5) hx hb hts hiX5 tyX5 tyX5_ok nmX5 hown hK hP hD hS 0 rfl rfl 3 (by decide) (hts _ (List.mem_of_getElem? (i := 7) rfl)) (fun _ h9 => h9) rfl (by decide +kernel) rfl rfl (Nat.le_of_ble_eq_true rfl) (dk_at dkX5_init_0 11 rfl) (fun H locs hP hD hS => ?_)
  have hP : va_P (dC, dI) vwCl [(a0, .inr (5, [.null, .ref q1, .int 0, .int (-1), .int 0])), (q1, .inl (cI, 26, .inl (fun _ => 0)))] H := hP
  have hD : va_D A [(a0, .inr (5, [.null, .ref q1, .int 0, .int (-1), .int 0])), (q1, .inl (cI, 26, .inl (fun _ => 0)))] := hD
  refine lv_aload_n hx hb (dk_at dkX5_init_0 12 rfl) rfl (lv_at hl 0 rfl) ?_
  refine lv_iconst (v := 0) hx hb (dk_at dkX5_init_0 13 rfl) (by decide +kernel) ?_
  refine va_put (D := (dC, dI)) (ci := 5) (v := .int 0) (ty := .int) (C := RX5) (T := TX5) (N := 5) hx hb hts hiX5 tyX5 tyX5_ok nmX5 hown hK hP hD hS 0 rfl rfl 4 (by decide) (hts _ (List.mem_of_getElem? (i := 8) rfl)) (fun _ h9 => h9) rfl (by decide +kernel) rfl rfl (Nat.le_of_ble_eq_true rfl) (dk_at dkX5_init_0 14 rfl) (fun H locs hP hD hS => ?_)
  have hP : va_P (dC, dI) vwCl [(a0, .inr (5, [.null, .ref q1, .int 0, .int (-1), .int 0])), (q1, .inl (cI, 26, .inl (fun _ => 0)))] H := hP
  have hD : va_D A [(a0, .inr (5, [.null, .ref q1, .int 0, .int (-1), .int 0])), (q1, .inl (cI, 26, .inl (fun _ => 0)))] := hD
  refine lv_aload_n hx hb (dk_at dkX5_init_0 15 rfl) rfl (lv_at hl 0 rfl) ?_
  refine va_new (ci := 3) (fs := [.null, .int 0, .int 0, .int 0, .int 0, .int 0, .int 0]) (C := RX3) (T := TX3) (N := 7) hx hb hts hiX3 tyX3 tyX3_ok hown (hts _ (List.mem_of_getElem? (i := 9) rfl)) (hts _ (List.mem_of_getElem? (i := 10) rfl)) (hts _ (List.mem_of_getElem? (i := 11) rfl)) hK hP hD hS hA rfl (by decide +kernel) (Nat.le_of_ble_eq_true rfl) (Nat.le_of_ble_eq_true rfl) (dk_at dkX5_init_1 0 rfl) (fun q2 H hP hD hS => ?_)
  have hP : va_P (dC, dI) vwCl [(a0, .inr (5, [.null, .ref q1, .int 0, .int (-1), .int 0])), (q1, .inl (cI, 26, .inl (fun _ => 0))), (q2, .inr (3, [.null, .int 0, .int 0, .int 0, .int 0, .int 0, .int 0]))] H := hP
  have hD : va_D A [(a0, .inr (5, [.null, .ref q1, .int 0, .int (-1), .int 0])), (q1, .inl (cI, 26, .inl (fun _ => 0))), (q2, .inr (3, [.null, .int 0, .int 0, .int 0, .int 0, .int 0, .int 0]))] := hD
  refine W.widen (k := 2) (n := 33) (by omega) (by omega) ?_
  refine lv_dup hx hb (dk_at dkX5_init_1 1 rfl) rfl ?_
  refine lv_aload_n hx hb (dk_at dkX5_init_1 2 rfl) rfl (lv_at hl 1 rfl) ?_
  have hPc := hP.sub (ws' := [(q2, .inr (3, [.null, .int 0, .int 0, .int 0, .int 0, .int 0, .int 0]))]) [2] rfl
  have hDc := hD.sub (ws' := [(q2, .inr (3, [.null, .int 0, .int 0, .int 0, .int 0, .int 0, .int 0]))]) [2] (by decide) rfl
  have hFc := va_free (wc := [(q2, .inr (3, [.null, .int 0, .int 0, .int 0, .int 0, .int 0, .int 0]))]) hD hS hA [2] rfl
  refine va_callv (va_runI (As := [.ref a1]) (rest := [.ref q2, .ref a0]) ⟨hx, hb, hml, hown, hts⟩ (k_X3_init_2 l dC dI cB cI cJ cZ cQ H.size q2 a1) (cwI 1 hts g_k_X5_init_3_0 rfl rfl rfl (hts _ (List.mem_of_getElem? (i := 11) rfl)) (hts _ (List.mem_of_getElem? (i := 21) rfl)) (hts _ (List.mem_of_getElem? (i := 22) rfl)) rfl (by decide +kernel) ⟨Nat.le_of_ble_eq_true rfl, Nat.le_of_ble_eq_true rfl⟩) ⟨fun a U g mk Z => by obtain ⟨q0, q1, qP, qK, qD⟩ := Z; exact ⟨q0, q1, qP, va_K.moved (u := U) (U := U.calling g mk a) (Vm.Alike.refl U.vm) qK, qD⟩, fun U hU hW => ⟨rfl, by rw [hU], by rw [hU]; exact hPc, va_K.moved hW.alike hK, hDc.weaken (fun _ _ _ _ => trivial)⟩⟩ rfl rfl hl.1 rfl (lv_room (Nat.le_of_ble_eq_true rfl)) (dk_at dkX5_init_1 3 rfl) ⟨Nat.le_of_ble_eq_true rfl, Nat.le_of_ble_eq_true rfl⟩) hS (fun b _ h => hFc b h) hFc (fun u3 t H1 locs ht hvm hw hB hz1 hk1 hS => ?_)
  obtain ⟨hP1, hK1, hD1⟩ := hB
  rw [ht] at hP1
  obtain ⟨hP, hD⟩ := va_join (wr := [(a0, .inr (5, [.null, .ref q1, .int 0, .int (-1), .int 0])), (q1, .inl (cI, 26, .inl (fun _ => 0)))]) (w1 := [(q2, .inr (3, [.ref a1, .int 0, .int 0, .int 0, .int 0, .int (-1), .int 0]))]) hP hD [2] [0, 1] rfl rfl (by decide) (by decide) hk1 hFc hP1 hD1
  clear hP1 hK1 hD1 hk1 hz1 hvm hPc hDc hFc
  generalize H1 = H at hP hS ⊢
  have hP : va_P (dC, dI) vwCl [(a0, .inr (5, [.null, .ref q1, .int 0, .int (-1), .int 0])), (q1, .inl (cI, 26, .inl (fun _ => 0))), (q2, .inr (3, [.ref a1, .int 0, .int 0, .int 0, .int 0, .int (-1), .int 0]))] H := hP
  have hD : va_D A [(a0, .inr (5, [.null, .ref q1, .int 0, .int (-1), .int 0])), (q1, .inl (cI, 26, .inl (fun _ => 0))), (q2, .inr (3, [.ref a1, .int 0, .int 0, .int 0, .int 0, .int (-1), .int 0]))] := hD
  refine va_putF (D := (dC, dI)) (ci := 5) (v := .ref q2) (ty := .object "StackKeys$Lexer") (C := RX5) (T := TX5) (N := 5) hx hb hts hiX5 tyX5 tyX5_ok nmX5 hown hK hP hD hS 0 rfl rfl 0 (by decide) (hts _ (List.mem_of_getElem? (i := 23) rfl)) (fun _ h9 => h9) rfl hin rfl (by decide +kernel) rfl rfl (Nat.le_of_ble_eq_true rfl) (dk_at dkX5_init_1 4 rfl) (fun H locs hP hD hS => ?_)
  have hP : va_P (dC, dI) vwCl [(a0, .inr (5, [.ref q2, .ref q1, .int 0, .int (-1), .int 0])), (q1, .inl (cI, 26, .inl (fun _ => 0))), (q2, .inr (3, [.ref a1, .int 0, .int 0, .int 0, .int 0, .int (-1), .int 0]))] H := hP
  have hD : va_D A [(a0, .inr (5, [.ref q2, .ref q1, .int 0, .int (-1), .int 0])), (q1, .inl (cI, 26, .inl (fun _ => 0))), (q2, .inr (3, [.ref a1, .int 0, .int 0, .int 0, .int 0, .int (-1), .int 0]))] := hD
  refine lv_iconst (v := 0) hx hb (dk_at dkX5_init_1 5 rfl) (by decide +kernel) ?_
  refine lv_istore_n (lv' := [(2, .int 0), (0, .ref a0), (1, .ref a1)]) hx hb (dk_at dkX5_init_1 6 rfl) rfl hl (by decide) rfl (fun ls hl => ?_)
  refine lv_iconst (v := 0) hx hb (dk_at dkX5_init_1 7 rfl) (by decide +kernel) ?_
  refine lv_istore_n (lv' := [(3, .int 0), (2, .int 0), (0, .ref a0), (1, .ref a1)]) hx hb (dk_at dkX5_init_1 8 rfl) rfl hl (by decide) rfl (fun ls hl => ?_)
  refine lv_iconst (v := 0) hx hb (dk_at dkX5_init_1 9 rfl) (by decide +kernel) ?_
  refine lv_istore (lv' := [(4, .int 0), (3, .int 0), (2, .int 0), (0, .ref a0), (1, .ref a1)]) hx hb (dk_at dkX5_init_1 10 rfl) hl (by decide) rfl (fun ls hl => ?_)
  refine (?keyR : ∀ (k : Nat) (i w z : Int32) (f : Nat → Int32) (H : Heap) (locs : List Loc) (ls : Array Slot), i.toInt + (k : Int) = 119 → 0 ≤ i.toInt → 0 ≤ w.toInt → w.toInt ≤ 26 → HO i w z f → va_P (dC, dI) vwCl [(a0, .inr (5, [.ref q2, .ref q1, .int 0, .int (-1), .int 0])), (q1, .inl (cI, 26, .inl f)), (q2, .inr (3, [.ref a1, .int 0, .int 0, .int 0, .int 0, .int (-1), .int 0]))] H → va_D A [(a0, .inr (5, [.ref q2, .ref q1, .int 0, .int (-1), .int 0])), (q1, .inl (cI, 26, .inl f)), (q2, .inr (3, [.ref a1, .int 0, .int 0, .int 0, .int 0, .int (-1), .int 0]))] → va_S A s.heap H locs → lv_has ls 6 [(4, .int i), (3, .int z), (2, .int w), (0, .ref a0), (1, .ref a1)] → W p l e _ s m _ below meth c H locs _ _ _ (F0 m 46 ls [])) 119 0 0 0 _ _ _ _ (by decide +kernel) (by decide +kernel) (by decide +kernel) (by decide +kernel) HO_0 hP hD hS hl
  clear hP hD hS hl
  intro k
  induction k with
  | zero =>
    intro i w z f H locs ls hk h0 hw0 hw26 hHO hP hD hS hl
    have hk : i.toInt = 119 := by simpa using hk
    have k119 : (119 : Int32).toInt = 119 := (by decide +kernel)
    refine lv_iload hx hb (dk_at dkX5_init_1 11 rfl) (lv_at hl 0 rfl) ?_
    refine va_ldcS hx hb hown hES.1 (dk_at dkX5_init_1 12 rfl) ?_
    have hFc := va_free (wc := []) hD hS hA [] rfl
    refine va_calli (va_runV (As := []) (rest := [.int i]) ⟨hx, hb, hml, hown, hts⟩ (kj_len l H.size aK aV) (cwV 0 hts g_k_X5_init_3_1 rfl rfl rfl (by decide +kernel) ⟨Nat.le_of_ble_eq_true rfl, Nat.le_of_ble_eq_true rfl⟩) ⟨fun a U g mk Z => ⟨Z.1, Z.2.1, exS.same (u := U) (U := U.calling g mk a) rfl rfl Z.2.2⟩, vk_recv hES.2.1 (i := 0) (by decide) hS, fun U hU hW => ⟨rfl, by rw [hU], exS.call hES hW hU hS hFc⟩⟩ rfl rfl hl.1 rfl (lv_room (Nat.le_of_ble_eq_true rfl)) (dk_at dkX5_init_1 13 rfl) ⟨Nat.le_of_ble_eq_true rfl, Nat.le_of_ble_eq_true rfl⟩) hS (fun b _ h => hFc b h) hFc (fun r u t H1 locs ht hvm hw hB hz1 hk1 hS => ?_)
    obtain ⟨hP, hD⟩ := va_join (wr := [(a0, .inr (5, [.ref q2, .ref q1, .int 0, .int (-1), .int 0])), (q1, .inl (cI, 26, .inl f)), (q2, .inr (3, [.ref a1, .int 0, .int 0, .int 0, .int 0, .int (-1), .int 0]))]) (w1 := []) hP hD [] [0, 1, 2] rfl rfl (by decide) (by decide) hk1 hFc (fun k b h => by simp at h) ⟨fun i j p b h => by simp at h, fun k b h => by simp at h⟩
    clear hFc hk1 hz1 hvm ht hB
    generalize H1 = H at hP hS ⊢
    have hP : va_P (dC, dI) vwCl [(a0, .inr (5, [.ref q2, .ref q1, .int 0, .int (-1), .int 0])), (q1, .inl (cI, 26, .inl f)), (q2, .inr (3, [.ref a1, .int 0, .int 0, .int 0, .int 0, .int (-1), .int 0]))] H := hP
    have hD : va_D A [(a0, .inr (5, [.ref q2, .ref q1, .int 0, .int (-1), .int 0])), (q1, .inl (cI, 26, .inl f)), (q2, .inr (3, [.ref a1, .int 0, .int 0, .int 0, .int 0, .int (-1), .int 0]))] := hD
    subst hw
    refine lv_icmp_ge (tgt := 113) hx hb (dk_at dkX5_init_1 14 rfl) (by decide) (fun _ => ?_) (fun q => False.elim (by have qi := mt (fa_le _ _).mpr q; omega))
    have hP9 := hP.sub (ws' := [(a0, .inr (5, [.ref q2, .ref q1, .int 0, .int (-1), .int 0])), (q1, .inl (cI, 26, .inl f)), (q2, .inr (3, [.ref a1, .int 0, .int 0, .int 0, .int 0, .int (-1), .int 0]))]) [0, 1, 2] rfl
    have hD9 := hD.sub (ws' := [(a0, .inr (5, [.ref q2, .ref q1, .int 0, .int (-1), .int 0])), (q1, .inl (cI, 26, .inl f)), (q2, .inr (3, [.ref a1, .int 0, .int 0, .int 0, .int 0, .int (-1), .int 0]))]) [0, 1, 2] (by decide) rfl
    exact W.vret hx hb hr (fun t ht hW => ⟨⟨((fun k => ([q1, q2] : List Nat).getD k 0), f), rfl, (HO_end hk hHO), by rw [ht]; exact hP9, va_K.moved hW.alike hK, hD9⟩, hS.F ht⟩) hS.2.2 (dk_at dkX5_init_3 14 rfl)
  | succ k ih =>
    intro i w z f H locs ls hk h0 hw0 hw26 hHO hP hD hS hl
    have hk : i.toInt + ((k : Int) + 1) = 119 := by simpa using hk
    have k119 : (119 : Int32).toInt = 119 := (by decide +kernel)
    have k26 : (26 : Int32).toInt = 26 := (by decide +kernel)
    have hi1 : (i + 1).toInt = i.toInt + 1 := inc_i (by omega)
    refine lv_iload hx hb (dk_at dkX5_init_1 11 rfl) (lv_at hl 0 rfl) ?_
    refine va_ldcS hx hb hown hES.1 (dk_at dkX5_init_1 12 rfl) ?_
    have hFc := va_free (wc := []) hD hS hA [] rfl
    refine va_calli (va_runV (As := []) (rest := [.int i]) ⟨hx, hb, hml, hown, hts⟩ (kj_len l H.size aK aV) (cwV 0 hts g_k_X5_init_3_2 rfl rfl rfl (by decide +kernel) ⟨Nat.le_of_ble_eq_true rfl, Nat.le_of_ble_eq_true rfl⟩) ⟨fun a U g mk Z => ⟨Z.1, Z.2.1, exS.same (u := U) (U := U.calling g mk a) rfl rfl Z.2.2⟩, vk_recv hES.2.1 (i := 0) (by decide) hS, fun U hU hW => ⟨rfl, by rw [hU], exS.call hES hW hU hS hFc⟩⟩ rfl rfl hl.1 rfl (lv_room (Nat.le_of_ble_eq_true rfl)) (dk_at dkX5_init_1 13 rfl) ⟨Nat.le_of_ble_eq_true rfl, Nat.le_of_ble_eq_true rfl⟩) hS (fun b _ h => hFc b h) hFc (fun r u t H1 locs ht hvm hw hB hz1 hk1 hS => ?_)
    obtain ⟨hP, hD⟩ := va_join (wr := [(a0, .inr (5, [.ref q2, .ref q1, .int 0, .int (-1), .int 0])), (q1, .inl (cI, 26, .inl f)), (q2, .inr (3, [.ref a1, .int 0, .int 0, .int 0, .int 0, .int (-1), .int 0]))]) (w1 := []) hP hD [] [0, 1, 2] rfl rfl (by decide) (by decide) hk1 hFc (fun k b h => by simp at h) ⟨fun i j p b h => by simp at h, fun k b h => by simp at h⟩
    clear hFc hk1 hz1 hvm ht hB
    generalize H1 = H at hP hS ⊢
    have hP : va_P (dC, dI) vwCl [(a0, .inr (5, [.ref q2, .ref q1, .int 0, .int (-1), .int 0])), (q1, .inl (cI, 26, .inl f)), (q2, .inr (3, [.ref a1, .int 0, .int 0, .int 0, .int 0, .int (-1), .int 0]))] H := hP
    have hD : va_D A [(a0, .inr (5, [.ref q2, .ref q1, .int 0, .int (-1), .int 0])), (q1, .inl (cI, 26, .inl f)), (q2, .inr (3, [.ref a1, .int 0, .int 0, .int 0, .int 0, .int (-1), .int 0]))] := hD
    subst hw
    refine lv_icmp_ge (tgt := 113) hx hb (dk_at dkX5_init_1 14 rfl) (by decide) (fun q => False.elim (by have qi := (fa_le _ _).mp q; omega)) (fun _ => ?_)
    refine lv_iload_n hx hb (dk_at dkX5_init_1 15 rfl) rfl (lv_at hl 2 rfl) ?_
    refine lv_bipush (v := 26) hx hb (dk_at dkX5_init_2 0 rfl) (by decide +kernel) ?_
    refine lv_icmp_ge (tgt := 113) hx hb (dk_at dkX5_init_2 1 rfl) (by decide) (fun q => ?_) (fun q => ?_)
    · have hP9 := hP.sub (ws' := [(a0, .inr (5, [.ref q2, .ref q1, .int 0, .int (-1), .int 0])), (q1, .inl (cI, 26, .inl f)), (q2, .inr (3, [.ref a1, .int 0, .int 0, .int 0, .int 0, .int (-1), .int 0]))]) [0, 1, 2] rfl
      have hD9 := hD.sub (ws' := [(a0, .inr (5, [.ref q2, .ref q1, .int 0, .int (-1), .int 0])), (q1, .inl (cI, 26, .inl f)), (q2, .inr (3, [.ref a1, .int 0, .int 0, .int 0, .int 0, .int (-1), .int 0]))]) [0, 1, 2] (by decide) rfl
      exact W.vret hx hb hr (fun t ht hW => ⟨⟨((fun k => ([q1, q2] : List Nat).getD k 0), f), rfl, (False.elim (by have q1 := (fa_le _ _).mp q; have q2 := HO_w h0 (by omega) hHO; omega)), by rw [ht]; exact hP9, va_K.moved hW.alike hK, hD9⟩, hS.F ht⟩) hS.2.2 (dk_at dkX5_init_3 14 rfl)
    · have qi := mt (fa_le _ _).mpr q
      refine va_ldcS hx hb hown hES.1 (dk_at dkX5_init_2 2 rfl) ?_
      refine lv_iload hx hb (dk_at dkX5_init_2 3 rfl) (lv_at hl 0 rfl) ?_
      have hFc := va_free (wc := []) hD hS hA [] rfl
      refine va_calli (va_runV (As := [.int i]) (rest := []) ⟨hx, hb, hml, hown, hts⟩ (kj_at l H.size aK aV i h0 (by omega)) (cwV 1 hts g_k_X5_init_3_3 rfl rfl rfl (by decide +kernel) ⟨Nat.le_of_ble_eq_true rfl, Nat.le_of_ble_eq_true rfl⟩) ⟨fun a U g mk Z => ⟨Z.1, Z.2.1, exS.same (u := U) (U := U.calling g mk a) rfl rfl Z.2.2⟩, vk_recv hES.2.1 (i := 0) (by decide) hS, fun U hU hW => ⟨rfl, by rw [hU], exS.call hES hW hU hS hFc⟩⟩ rfl rfl hl.1 rfl (lv_room (Nat.le_of_ble_eq_true rfl)) (dk_at dkX5_init_2 4 rfl) ⟨Nat.le_of_ble_eq_true rfl, Nat.le_of_ble_eq_true rfl⟩) hS (fun b _ h => hFc b h) hFc (fun r u t H1 locs ht hvm hw hB hz1 hk1 hS => ?_)
      obtain ⟨hP, hD⟩ := va_join (wr := [(a0, .inr (5, [.ref q2, .ref q1, .int 0, .int (-1), .int 0])), (q1, .inl (cI, 26, .inl f)), (q2, .inr (3, [.ref a1, .int 0, .int 0, .int 0, .int 0, .int (-1), .int 0]))]) (w1 := []) hP hD [] [0, 1, 2] rfl rfl (by decide) (by decide) hk1 hFc (fun k b h => by simp at h) ⟨fun i j p b h => by simp at h, fun k b h => by simp at h⟩
      clear hFc hk1 hz1 hvm ht hB
      generalize H1 = H at hP hS ⊢
      have hP : va_P (dC, dI) vwCl [(a0, .inr (5, [.ref q2, .ref q1, .int 0, .int (-1), .int 0])), (q1, .inl (cI, 26, .inl f)), (q2, .inr (3, [.ref a1, .int 0, .int 0, .int 0, .int 0, .int (-1), .int 0]))] H := hP
      have hD : va_D A [(a0, .inr (5, [.ref q2, .ref q1, .int 0, .int (-1), .int 0])), (q1, .inl (cI, 26, .inl f)), (q2, .inr (3, [.ref a1, .int 0, .int 0, .int 0, .int 0, .int (-1), .int 0]))] := hD
      refine lv_istore (lv' := [(5, .int r), (4, .int i), (3, .int z), (2, .int w), (0, .ref a0), (1, .ref a1)]) hx hb (dk_at dkX5_init_2 5 rfl) hl (by decide) rfl (fun ls hl => ?_)
      refine lv_iload hx hb (dk_at dkX5_init_2 6 rfl) (lv_at hl 0 rfl) ?_
      refine lv_bipush (v := 32) hx hb (dk_at dkX5_init_2 7 rfl) (by decide +kernel) ?_
      refine lv_icmp_ne (tgt := 86) hx hb (dk_at dkX5_init_2 8 rfl) (by decide) (fun c32 => ?_) (fun c32 => ?_)
      · refine lv_aload_n hx hb (dk_at dkX5_init_2 13 rfl) rfl (lv_at hl 4 rfl) ?_
        refine va_get (D := (dC, dI)) (ci := 5) (v := .ref q1) (C := RX5) (T := TX5) (N := 5) hx hb hts hiX5 hown hK hP 0 rfl rfl 1 (by decide) (hts _ (List.mem_of_getElem? (i := 5) rfl)) (fun _ h9 => h9) rfl (dk_at dkX5_init_2 14 rfl) ?_
        refine lv_iload_n hx hb (dk_at dkX5_init_2 15 rfl) rfl (lv_at hl 3 rfl) ?_
        refine lv_dup2_11 hx hb (dk_at dkX5_init_3 0 rfl) rfl rfl ?_
        refine va_iald hx hb hK hP 1 1 rfl rfl (vp_in_iff.mpr ⟨by omega, by omega⟩) (dk_at dkX5_init_3 1 rfl) ?_
        refine lv_iload hx hb (dk_at dkX5_init_3 2 rfl) (lv_at hl 0 rfl) ?_
        refine lv_bipush (v := 96) hx hb (dk_at dkX5_init_3 3 rfl) (by decide +kernel) ?_
        refine lv_isub hx hb (dk_at dkX5_init_3 4 rfl) ?_
        refine lv_iconst (v := 5) hx hb (dk_at dkX5_init_3 5 rfl) (by decide +kernel) ?_
        refine lv_iload_n hx hb (dk_at dkX5_init_3 6 rfl) rfl (lv_at hl 2 rfl) ?_
        refine lv_imul hx hb (dk_at dkX5_init_3 7 rfl) ?_
        refine lv_ishl hx hb (dk_at dkX5_init_3 8 rfl) ?_
        refine lv_ior hx hb (dk_at dkX5_init_3 9 rfl) ?_
        refine va_iast hx hb hK hP hD hS 1 1 rfl rfl (vp_in_iff.mpr ⟨by omega, by omega⟩) (dk_at dkX5_init_3 10 rfl) (fun H locs hP hD hS => ?_)
        have hP : va_P (dC, dI) vwCl [(a0, .inr (5, [.ref q2, .ref q1, .int 0, .int (-1), .int 0])), (q1, .inl (cI, 26, .inl (upd f w.toNatClampNeg (f w.toNatClampNeg ||| (r - 96) <<< ((5 * z) &&& 31))))), (q2, .inr (3, [.ref a1, .int 0, .int 0, .int 0, .int 0, .int (-1), .int 0]))] H := hP
        have hD : va_D A [(a0, .inr (5, [.ref q2, .ref q1, .int 0, .int (-1), .int 0])), (q1, .inl (cI, 26, .inl (upd f w.toNatClampNeg (f w.toNatClampNeg ||| (r - 96) <<< ((5 * z) &&& 31))))), (q2, .inr (3, [.ref a1, .int 0, .int 0, .int 0, .int 0, .int (-1), .int 0]))] := hD
        refine lv_iinc (v := z + 1) (lv' := [(3, .int (z + 1)), (5, .int r), (4, .int i), (2, .int w), (0, .ref a0), (1, .ref a1)]) hx hb (dk_at dkX5_init_3 11 rfl) hl (k := 2) rfl rfl (by decide) rfl (fun ls hl => ?_)
        refine lv_iinc (v := i + 1) (lv' := [(4, .int (i + 1)), (3, .int (z + 1)), (5, .int r), (2, .int w), (0, .ref a0), (1, .ref a1)]) hx hb (dk_at dkX5_init_3 12 rfl) hl (k := 2) rfl rfl (by decide) rfl (fun ls hl => ?_)
        refine lv_goto (tgt := 46) hx hb (dk_at dkX5_init_3 13 rfl) (by decide) ?_
        exact ih (i + 1) w (z + 1) _ _ _ _ (by omega) (by omega) (by omega) (by omega) (HO_le h0 hi1 (by omega) hw.2 c32 hHO) hP hD hS (lv_sub hl [0, 1, 3, 4, 5] rfl)
      · have hw1 : (w + 1).toInt = w.toInt + 1 := inc_i (by omega)
        refine lv_iinc (v := w + 1) (lv' := [(2, .int (w + 1)), (5, .int r), (4, .int i), (3, .int z), (0, .ref a0), (1, .ref a1)]) hx hb (dk_at dkX5_init_2 9 rfl) hl (k := 3) rfl rfl (by decide) rfl (fun ls hl => ?_)
        refine lv_iconst (v := 0) hx hb (dk_at dkX5_init_2 10 rfl) (by decide +kernel) ?_
        refine lv_istore_n (lv' := [(3, .int 0), (2, .int (w + 1)), (5, .int r), (4, .int i), (0, .ref a0), (1, .ref a1)]) hx hb (dk_at dkX5_init_2 11 rfl) rfl hl (by decide) rfl (fun ls hl => ?_)
        refine lv_goto (tgt := 107) hx hb (dk_at dkX5_init_2 12 rfl) (by decide) ?_
        refine lv_iinc (v := i + 1) (lv' := [(4, .int (i + 1)), (3, .int 0), (2, .int (w + 1)), (5, .int r), (0, .ref a0), (1, .ref a1)]) hx hb (dk_at dkX5_init_3 12 rfl) hl (k := 3) rfl rfl (by decide) rfl (fun ls hl => ?_)
        refine lv_goto (tgt := 46) hx hb (dk_at dkX5_init_3 13 rfl) (by decide) ?_
        exact ih (i + 1) (w + 1) 0 _ _ _ _ (by omega) (by omega) (by omega) (by omega) (HO_sp h0 hi1 hw.2 c32 hHO) hP hD hS (lv_sub hl [0, 1, 2, 4, 5] rfl)
def ws_k_X0_init_4 : List Cond := .code yX0_init cX0_init 1 none :: ([.methodLink RX0 5 objectInit, .instanceMethod objectInit, .code objectInit ⟨#[0xb1]⟩ 1 none, .arrayClass .long, .fieldLink RX0 11 "StackKeys$Alone" "seen" "[J", .classLink RX0 15 "[[I", .arrayClass .int, .fieldLink RX0 17 "StackKeys$Alone" "shutBy" "[[I", .fieldLink RX0 20 "StackKeys$Alone" "unit" "[I", .fieldLink RX0 24 "StackKeys$Alone" "left" "[I", .fieldLink RX0 27 "StackKeys$Alone" "doorsAt" "[I", .fieldLink RX0 30 "StackKeys$Alone" "barred" "[I", .fieldLink RX0 33 "StackKeys$Alone" "wants" "[I", .fieldLink RX0 36 "StackKeys$Alone" "front" "[J", .fieldLink RX0 39 "StackKeys$Alone" "next" "[J", .fieldLink RX0 42 "StackKeys$Alone" "wantCount" "I", .fieldLink RX0 46 "StackKeys$Alone" "hadUnit" "I", .fieldLink RX0 49 "StackKeys$Alone" "states" "I", .fieldLink RX0 52 "StackKeys$Alone" "shutByOthers" "I", .fieldLink RX0 55 "StackKeys$Alone" "goalKind" "I", .fieldLink RX0 58 "StackKeys$Alone" "goal" "I", .fieldLink RX0 61 "StackKeys$Alone" "placesSeen" "I", .fieldLink RX0 64 "StackKeys$Alone" "lentActs" "I"] ++ wsX00)
set_option maxHeartbeats 4000000 in
set_option maxRecDepth 100000 in
theorem k_X0_init_4 (l : Launch) (dC : Nat → ClassId) (dI : Nat → Nat → Nat) (cB cI cJ cZ cQ : ClassId) (sz : Nat) (a0 : Nat) : Met l yX0_init ws_k_X0_init_4 ({ frames := 1, cells := 13, slots := 3741, locals := 12 }) (va_Pc [.ref a0] (fun U => U.heap.size = sz ∧ va_P (dC, dI) vwCl [(a0, .inr (0, [.null, .null, .null, .null, .null, .null, .null, .null, .null, .int 0, .int 0, .int 0, .int 0, .int 0, .int 0, .int 0, .int 0]))] U.heap ∧ va_K (dC, dI) vwCl (tyA cB cI cJ cZ cQ) U ∧ va_D (fun _ => True) [(a0, .inr (0, [.null, .null, .null, .null, .null, .null, .null, .null, .null, .int 0, .int 0, .int 0, .int 0, .int 0, .int 0, .int 0, .int 0]))] ∧ exN U)) (va_Qv (fun _ : (Nat → Nat) => True) (fun (u : (Nat → Nat)) t => va_P (dC, dI) vwCl [(a0, .inr (0, [.ref (u 0), .ref (u 1), .ref (u 6), .ref (u 7), .ref (u 8), .ref (u 9), .ref (u 10), .ref (u 11), .ref (u 12), .int 0, .int 1, .int 0, .int 0, .int 3, .int 0, .int 0, .int (-1)])), ((u 0), .inl (cJ, 1201, .inr (.inl (fun _ => 0)))), ((u 1), .inl (cQ, 4, .inr (.inr (.inr (.inr (fun i => ([(u 2), (u 3), (u 4), (u 5)] : List Nat)[i]?)))))), ((u 2), .inl (cI, 7, .inl (fun _ => 0))), ((u 3), .inl (cI, 7, .inl (fun _ => 0))), ((u 4), .inl (cI, 7, .inl (fun _ => 0))), ((u 5), .inl (cI, 7, .inl (fun _ => 0))), ((u 6), .inl (cI, 4, .inl (fun _ => 0))), ((u 7), .inl (cI, 4, .inl (fun _ => 0))), ((u 8), .inl (cI, 8, .inl (fun _ => 0))), ((u 9), .inl (cI, 88, .inl (fun _ => 0))), ((u 10), .inl (cI, 2, .inl (fun _ => 0))), ((u 11), .inl (cJ, 1201, .inr (.inl (fun _ => 0)))), ((u 12), .inl (cJ, 1201, .inr (.inl (fun _ => 0))))] t.heap ∧ va_K (dC, dI) vwCl (tyA cB cI cJ cZ cQ) t ∧ va_D (va_A [(a0, .inr (0, [.null, .null, .null, .null, .null, .null, .null, .null, .null, .int 0, .int 0, .int 0, .int 0, .int 0, .int 0, .int 0, .int 0]))] sz) [(a0, .inr (0, [.ref (u 0), .ref (u 1), .ref (u 6), .ref (u 7), .ref (u 8), .ref (u 9), .ref (u 10), .ref (u 11), .ref (u 12), .int 0, .int 1, .int 0, .int 0, .int 3, .int 0, .int 0, .int (-1)])), ((u 0), .inl (cJ, 1201, .inr (.inl (fun _ => 0)))), ((u 1), .inl (cQ, 4, .inr (.inr (.inr (.inr (fun i => ([(u 2), (u 3), (u 4), (u 5)] : List Nat)[i]?)))))), ((u 2), .inl (cI, 7, .inl (fun _ => 0))), ((u 3), .inl (cI, 7, .inl (fun _ => 0))), ((u 4), .inl (cI, 7, .inl (fun _ => 0))), ((u 5), .inl (cI, 7, .inl (fun _ => 0))), ((u 6), .inl (cI, 4, .inl (fun _ => 0))), ((u 7), .inl (cI, 4, .inl (fun _ => 0))), ((u 8), .inl (cI, 8, .inl (fun _ => 0))), ((u 9), .inl (cI, 88, .inl (fun _ => 0))), ((u 10), .inl (cI, 2, .inl (fun _ => 0))), ((u 11), .inl (cJ, 1201, .inr (.inl (fun _ => 0)))), ((u 12), .inl (cJ, 1201, .inr (.inl (fun _ => 0))))]) (va_A [(a0, .inr (0, [.null, .null, .null, .null, .null, .null, .null, .null, .null, .int 0, .int 0, .int 0, .int 0, .int 0, .int 0, .int 0, .int 0]))] sz)) 13 3741 (va_A [(a0, .inr (0, [.null, .null, .null, .null, .null, .null, .null, .null, .null, .int 0, .int 0, .int 0, .int 0, .int 0, .int 0, .int 0, .int 0]))] sz) := by
  refine Met.ofW (cc := cX0_init) (maxL := 1) (ret := none) (by decide +kernel) rfl ?_
  intro p e s m args below meth c s₁ B hml hv
  obtain ⟨rfl, hsz, hP, hK, hD0, hE⟩ := hv
  have hx := B.exec
  have hb := B.bytes
  have hr := B.returns
  have hts := atoms_spec (ws := ws_k_X0_init_4) B.pre
  have hown : s.vm.findClass RX0 = some m.cls := findClass_of_methodNamed B.named
  have hin : meth.name = "<init>" := (name_of_methodNamed B.named B.method).1
  have hiX0 : ∀ w ∈ u_ws RX0 TX0 17, w ∈ ws_k_X0_init_4 := fun w h => List.mem_cons_of_mem _ (List.mem_append_right _ h)
  subst hsz
  have hD := hD0.self (sz := s.heap.size)
  generalize hAe : va_A [(a0, .inr (0, [.null, .null, .null, .null, .null, .null, .null, .null, .null, .int 0, .int 0, .int 0, .int 0, .int 0, .int 0, .int 0, .int 0]))] s.heap.size = A at hD ⊢
  have hA : ∀ b : Nat, s.heap.size ≤ b → A b := fun b h => by rw [← hAe]; exact Or.inr h
  clear hD0 hAe
  have hS : va_S A s.heap s.heap [] := va_S.rf
  have hl := lv_entry ([.ref a0]) (n := 1) (Nat.le_of_ble_eq_true rfl)
  rw [lg_entry_eq]
  generalize (lg_sl ([.ref a0]) ++ List.replicate (1 - (lg_sl ([.ref a0])).length) Slot.unset).toArray = ls at hl ⊢
  have hl : lv_has ls 1 [(0, .ref a0)] := hl
  obtain ⟨H, hHe⟩ : ∃ H : Heap, H = s.heap := ⟨_, rfl⟩
  rw [← hHe] at hP
  have hS : va_S A s.heap H [] := by rw [hHe]; exact hS
  rw [← hHe]
  refine lv_aload_n hx hb (dk_at dkX0_init_0 0 rfl) rfl (lv_at hl 0 rfl) ?_
  refine W.objInit hx hb hown (hts _ (List.mem_of_getElem? (i := 1) rfl)) (hts _ (List.mem_of_getElem? (i := 2) rfl)) (hts _ (List.mem_of_getElem? (i := 3) rfl)) rfl (by rw [hml]; exact hl.1) rfl (dk_at dkX0_init_0 1 rfl) (Nat.le_of_ble_eq_true rfl) (Nat.le_of_ble_eq_true rfl) ?_
  refine W.eq (g2 := F0 m 4 ls []) rfl ?_
  refine lv_aload_n hx hb (dk_at dkX0_init_0 2 rfl) rfl (lv_at hl 0 rfl) ?_
  refine lv_sipush (v := 1201) hx hb (dk_at dkX0_init_0 3 rfl) (by decide +kernel) ?_
  refine va_newaC (ty := .long) (a0 := (1201, .inr (.inl (fun _ => 0)))) (N' := 1201) hx hb (hts _ (List.mem_of_getElem? (i := 4) rfl)) rfl hK hP hD hS hA 2 rfl (fun _ => rfl) (by decide +kernel) (by decide +kernel) (by decide +kernel) (Nat.le_of_ble_eq_true rfl) (Nat.le_of_ble_eq_true rfl) (dk_at dkX0_init_0 4 rfl) (fun q1 H hP hD hS => ?_)
  have hP : va_P (dC, dI) vwCl [(a0, .inr (0, [.null, .null, .null, .null, .null, .null, .null, .null, .null, .int 0, .int 0, .int 0, .int 0, .int 0, .int 0, .int 0, .int 0])), (q1, .inl (cJ, 1201, .inr (.inl (fun _ => 0))))] H := hP
  have hD : va_D A [(a0, .inr (0, [.null, .null, .null, .null, .null, .null, .null, .null, .null, .int 0, .int 0, .int 0, .int 0, .int 0, .int 0, .int 0, .int 0])), (q1, .inl (cJ, 1201, .inr (.inl (fun _ => 0))))] := hD
  refine W.widen (k := 1) (n := 1201) (by omega) (by omega) ?_
  refine va_putF (D := (dC, dI)) (ci := 0) (v := .ref q1) (ty := .array .long) (C := RX0) (T := TX0) (N := 17) hx hb hts hiX0 tyX0 tyX0_ok nmX0 hown hK hP hD hS 0 rfl rfl 0 (by decide) (hts _ (List.mem_of_getElem? (i := 5) rfl)) (fun _ h9 => h9) rfl hin rfl (by decide +kernel) rfl rfl (Nat.le_of_ble_eq_true rfl) (dk_at dkX0_init_0 5 rfl) (fun H locs hP hD hS => ?_)
  have hP : va_P (dC, dI) vwCl [(a0, .inr (0, [.ref q1, .null, .null, .null, .null, .null, .null, .null, .null, .int 0, .int 0, .int 0, .int 0, .int 0, .int 0, .int 0, .int 0])), (q1, .inl (cJ, 1201, .inr (.inl (fun _ => 0))))] H := hP
  have hD : va_D A [(a0, .inr (0, [.ref q1, .null, .null, .null, .null, .null, .null, .null, .null, .int 0, .int 0, .int 0, .int 0, .int 0, .int 0, .int 0, .int 0])), (q1, .inl (cJ, 1201, .inr (.inl (fun _ => 0))))] := hD
  refine lv_aload_n hx hb (dk_at dkX0_init_0 6 rfl) rfl (lv_at hl 0 rfl) ?_
  refine lv_iconst (v := 4) hx hb (dk_at dkX0_init_0 7 rfl) (by decide +kernel) ?_
  refine lv_bipush (v := 7) hx hb (dk_at dkX0_init_0 8 rfl) (by decide +kernel) ?_
  refine va_mnaC (N' := 4) (K' := 7) hx hb hown (hts _ (List.mem_of_getElem? (i := 6) rfl)) hE.2.2.2.2.2.2.2.2.2.2.2 (hts _ (List.mem_of_getElem? (i := 7) rfl)) hK hP hD hS hA 4 1 rfl rfl (by decide +kernel) (by decide +kernel) (by decide +kernel) (by decide +kernel) (by decide +kernel) (by decide +kernel) (by decide +kernel) (Nat.le_of_ble_eq_true rfl) (Nat.le_of_ble_eq_true rfl) (dk_at dkX0_init_0 9 rfl) (fun q2 r3 H hP hD hS => ?_)
  have hP : va_P (dC, dI) vwCl [(a0, .inr (0, [.ref q1, .null, .null, .null, .null, .null, .null, .null, .null, .int 0, .int 0, .int 0, .int 0, .int 0, .int 0, .int 0, .int 0])), (q1, .inl (cJ, 1201, .inr (.inl (fun _ => 0)))), (q2, .inl (cQ, 4, .inr (.inr (.inr (.inr (fun i => ([(r3 0), (r3 1), (r3 2), (r3 3)] : List Nat)[i]?)))))), ((r3 0), .inl (cI, 7, .inl (fun _ => 0))), ((r3 1), .inl (cI, 7, .inl (fun _ => 0))), ((r3 2), .inl (cI, 7, .inl (fun _ => 0))), ((r3 3), .inl (cI, 7, .inl (fun _ => 0)))] H := hP
  have hD : va_D A [(a0, .inr (0, [.ref q1, .null, .null, .null, .null, .null, .null, .null, .null, .int 0, .int 0, .int 0, .int 0, .int 0, .int 0, .int 0, .int 0])), (q1, .inl (cJ, 1201, .inr (.inl (fun _ => 0)))), (q2, .inl (cQ, 4, .inr (.inr (.inr (.inr (fun i => ([(r3 0), (r3 1), (r3 2), (r3 3)] : List Nat)[i]?)))))), ((r3 0), .inl (cI, 7, .inl (fun _ => 0))), ((r3 1), .inl (cI, 7, .inl (fun _ => 0))), ((r3 2), .inl (cI, 7, .inl (fun _ => 0))), ((r3 3), .inl (cI, 7, .inl (fun _ => 0)))] := hD
  refine W.widen (k := 6) (n := 1233) (by omega) (by omega) ?_
  refine va_putF (D := (dC, dI)) (ci := 0) (v := .ref q2) (ty := .array (.array .int)) (C := RX0) (T := TX0) (N := 17) hx hb hts hiX0 tyX0 tyX0_ok nmX0 hown hK hP hD hS 0 rfl rfl 1 (by decide) (hts _ (List.mem_of_getElem? (i := 8) rfl)) (fun _ h9 => h9) rfl hin rfl (by decide +kernel) rfl rfl (Nat.le_of_ble_eq_true rfl) (dk_at dkX0_init_0 10 rfl) (fun H locs hP hD hS => ?_)
  have hP : va_P (dC, dI) vwCl [(a0, .inr (0, [.ref q1, .ref q2, .null, .null, .null, .null, .null, .null, .null, .int 0, .int 0, .int 0, .int 0, .int 0, .int 0, .int 0, .int 0])), (q1, .inl (cJ, 1201, .inr (.inl (fun _ => 0)))), (q2, .inl (cQ, 4, .inr (.inr (.inr (.inr (fun i => ([(r3 0), (r3 1), (r3 2), (r3 3)] : List Nat)[i]?)))))), ((r3 0), .inl (cI, 7, .inl (fun _ => 0))), ((r3 1), .inl (cI, 7, .inl (fun _ => 0))), ((r3 2), .inl (cI, 7, .inl (fun _ => 0))), ((r3 3), .inl (cI, 7, .inl (fun _ => 0)))] H := hP
  have hD : va_D A [(a0, .inr (0, [.ref q1, .ref q2, .null, .null, .null, .null, .null, .null, .null, .int 0, .int 0, .int 0, .int 0, .int 0, .int 0, .int 0, .int 0])), (q1, .inl (cJ, 1201, .inr (.inl (fun _ => 0)))), (q2, .inl (cQ, 4, .inr (.inr (.inr (.inr (fun i => ([(r3 0), (r3 1), (r3 2), (r3 3)] : List Nat)[i]?)))))), ((r3 0), .inl (cI, 7, .inl (fun _ => 0))), ((r3 1), .inl (cI, 7, .inl (fun _ => 0))), ((r3 2), .inl (cI, 7, .inl (fun _ => 0))), ((r3 3), .inl (cI, 7, .inl (fun _ => 0)))] := hD
  refine lv_aload_n hx hb (dk_at dkX0_init_0 11 rfl) rfl (lv_at hl 0 rfl) ?_
  refine lv_iconst (v := 4) hx hb (dk_at dkX0_init_0 12 rfl) (by decide +kernel) ?_
  refine va_newaC (ty := .int) (a0 := (4, .inl (fun _ => 0))) (N' := 4) hx hb (hts _ (List.mem_of_getElem? (i := 7) rfl)) rfl hK hP hD hS hA 1 rfl (fun _ => rfl) (by decide +kernel) (by decide +kernel) (by decide +kernel) (Nat.le_of_ble_eq_true rfl) (Nat.le_of_ble_eq_true rfl) (dk_at dkX0_init_0 13 rfl) (fun q4 H hP hD hS => ?_)
  have hP : va_P (dC, dI) vwCl [(a0, .inr (0, [.ref q1, .ref q2, .null, .null, .null, .null, .null, .null, .null, .int 0, .int 0, .int 0, .int 0, .int 0, .int 0, .int 0, .int 0])), (q1, .inl (cJ, 1201, .inr (.inl (fun _ => 0)))), (q2, .inl (cQ, 4, .inr (.inr (.inr (.inr (fun i => ([(r3 0), (r3 1), (r3 2), (r3 3)] : List Nat)[i]?)))))), ((r3 0), .inl (cI, 7, .inl (fun _ => 0))), ((r3 1), .inl (cI, 7, .inl (fun _ => 0))), ((r3 2), .inl (cI, 7, .inl (fun _ => 0))), ((r3 3), .inl (cI, 7, .inl (fun _ => 0))), (q4, .inl (cI, 4, .inl (fun _ => 0)))] H := hP
  have hD : va_D A [(a0, .inr (0, [.ref q1, .ref q2, .null, .null, .null, .null, .null, .null, .null, .int 0, .int 0, .int 0, .int 0, .int 0, .int 0, .int 0, .int 0])), (q1, .inl (cJ, 1201, .inr (.inl (fun _ => 0)))), (q2, .inl (cQ, 4, .inr (.inr (.inr (.inr (fun i => ([(r3 0), (r3 1), (r3 2), (r3 3)] : List Nat)[i]?)))))), ((r3 0), .inl (cI, 7, .inl (fun _ => 0))), ((r3 1), .inl (cI, 7, .inl (fun _ => 0))), ((r3 2), .inl (cI, 7, .inl (fun _ => 0))), ((r3 3), .inl (cI, 7, .inl (fun _ => 0))), (q4, .inl (cI, 4, .inl (fun _ => 0)))] := hD
  refine W.widen (k := 7) (n := 1237) (by omega) (by omega) ?_
  refine va_putF (D := (dC, dI)) (ci := 0) (v := .ref q4) (ty := .array .int) (C := RX0) (T := TX0) (N := 17) hx hb hts hiX0 tyX0 tyX0_ok nmX0 hown hK hP hD hS 0 rfl rfl 2 (by decide) (hts _ (List.mem_of_getElem? (i := 9) rfl)) (fun _ h9 => h9) rfl hin rfl (by decide +kernel) rfl rfl (Nat.le_of_ble_eq_true rfl) (dk_at dkX0_init_0 14 rfl) (fun H locs hP hD hS => ?_)
  have hP : va_P (dC, dI) vwCl [(a0, .inr (0, [.ref q1, .ref q2, .ref q4, .null, .null, .null, .null, .null, .null, .int 0, .int 0, .int 0, .int 0, .int 0, .int 0, .int 0, .int 0])), (q1, .inl (cJ, 1201, .inr (.inl (fun _ => 0)))), (q2, .inl (cQ, 4, .inr (.inr (.inr (.inr (fun i => ([(r3 0), (r3 1), (r3 2), (r3 3)] : List Nat)[i]?)))))), ((r3 0), .inl (cI, 7, .inl (fun _ => 0))), ((r3 1), .inl (cI, 7, .inl (fun _ => 0))), ((r3 2), .inl (cI, 7, .inl (fun _ => 0))), ((r3 3), .inl (cI, 7, .inl (fun _ => 0))), (q4, .inl (cI, 4, .inl (fun _ => 0)))] H := hP
  have hD : va_D A [(a0, .inr (0, [.ref q1, .ref q2, .ref q4, .null, .null, .null, .null, .null, .null, .int 0, .int 0, .int 0, .int 0, .int 0, .int 0, .int 0, .int 0])), (q1, .inl (cJ, 1201, .inr (.inl (fun _ => 0)))), (q2, .inl (cQ, 4, .inr (.inr (.inr (.inr (fun i => ([(r3 0), (r3 1), (r3 2), (r3 3)] : List Nat)[i]?)))))), ((r3 0), .inl (cI, 7, .inl (fun _ => 0))), ((r3 1), .inl (cI, 7, .inl (fun _ => 0))), ((r3 2), .inl (cI, 7, .inl (fun _ => 0))), ((r3 3), .inl (cI, 7, .inl (fun _ => 0))), (q4, .inl (cI, 4, .inl (fun _ => 0)))] := hD
  refine lv_aload_n hx hb (dk_at dkX0_init_0 15 rfl) rfl (lv_at hl 0 rfl) ?_
  refine lv_iconst (v := 4) hx hb (dk_at dkX0_init_1 0 rfl) (by decide +kernel) ?_
  refine va_newaC (ty := .int) (a0 := (4, .inl (fun _ => 0))) (N' := 4) hx hb (hts _ (List.mem_of_getElem? (i := 7) rfl)) rfl hK hP hD hS hA 1 rfl (fun _ => rfl) (by decide +kernel) (by decide +kernel) (by decide +kernel) (Nat.le_of_ble_eq_true rfl) (Nat.le_of_ble_eq_true rfl) (dk_at dkX0_init_1 1 rfl) (fun q5 H hP hD hS => ?_)
  have hP : va_P (dC, dI) vwCl [(a0, .inr (0, [.ref q1, .ref q2, .ref q4, .null, .null, .null, .null, .null, .null, .int 0, .int 0, .int 0, .int 0, .int 0, .int 0, .int 0, .int 0])), (q1, .inl (cJ, 1201, .inr (.inl (fun _ => 0)))), (q2, .inl (cQ, 4, .inr (.inr (.inr (.inr (fun i => ([(r3 0), (r3 1), (r3 2), (r3 3)] : List Nat)[i]?)))))), ((r3 0), .inl (cI, 7, .inl (fun _ => 0))), ((r3 1), .inl (cI, 7, .inl (fun _ => 0))), ((r3 2), .inl (cI, 7, .inl (fun _ => 0))), ((r3 3), .inl (cI, 7, .inl (fun _ => 0))), (q4, .inl (cI, 4, .inl (fun _ => 0))), (q5, .inl (cI, 4, .inl (fun _ => 0)))] H := hP
  have hD : va_D A [(a0, .inr (0, [.ref q1, .ref q2, .ref q4, .null, .null, .null, .null, .null, .null, .int 0, .int 0, .int 0, .int 0, .int 0, .int 0, .int 0, .int 0])), (q1, .inl (cJ, 1201, .inr (.inl (fun _ => 0)))), (q2, .inl (cQ, 4, .inr (.inr (.inr (.inr (fun i => ([(r3 0), (r3 1), (r3 2), (r3 3)] : List Nat)[i]?)))))), ((r3 0), .inl (cI, 7, .inl (fun _ => 0))), ((r3 1), .inl (cI, 7, .inl (fun _ => 0))), ((r3 2), .inl (cI, 7, .inl (fun _ => 0))), ((r3 3), .inl (cI, 7, .inl (fun _ => 0))), (q4, .inl (cI, 4, .inl (fun _ => 0))), (q5, .inl (cI, 4, .inl (fun _ => 0)))] := hD
  refine W.widen (k := 8) (n := 1241) (by omega) (by omega) ?_
  refine va_putF (D := (dC, dI)) (ci := 0) (v := .ref q5) (ty := .array .int) (C := RX0) (T := TX0) (N := 17) hx hb hts hiX0 tyX0 tyX0_ok nmX0 hown hK hP hD hS 0 rfl rfl 3 (by decide) (hts _ (List.mem_of_getElem? (i := 10) rfl)) (fun _ h9 => h9) rfl hin rfl (by decide +kernel) rfl rfl (Nat.le_of_ble_eq_true rfl) (dk_at dkX0_init_1 2 rfl) (fun H locs hP hD hS => ?_)
  have hP : va_P (dC, dI) vwCl [(a0, .inr (0, [.ref q1, .ref q2, .ref q4, .ref q5, .null, .null, .null, .null, .null, .int 0, .int 0, .int 0, .int 0, .int 0, .int 0, .int 0, .int 0])), (q1, .inl (cJ, 1201, .inr (.inl (fun _ => 0)))), (q2, .inl (cQ, 4, .inr (.inr (.inr (.inr (fun i => ([(r3 0), (r3 1), (r3 2), (r3 3)] : List Nat)[i]?)))))), ((r3 0), .inl (cI, 7, .inl (fun _ => 0))), ((r3 1), .inl (cI, 7, .inl (fun _ => 0))), ((r3 2), .inl (cI, 7, .inl (fun _ => 0))), ((r3 3), .inl (cI, 7, .inl (fun _ => 0))), (q4, .inl (cI, 4, .inl (fun _ => 0))), (q5, .inl (cI, 4, .inl (fun _ => 0)))] H := hP
  have hD : va_D A [(a0, .inr (0, [.ref q1, .ref q2, .ref q4, .ref q5, .null, .null, .null, .null, .null, .int 0, .int 0, .int 0, .int 0, .int 0, .int 0, .int 0, .int 0])), (q1, .inl (cJ, 1201, .inr (.inl (fun _ => 0)))), (q2, .inl (cQ, 4, .inr (.inr (.inr (.inr (fun i => ([(r3 0), (r3 1), (r3 2), (r3 3)] : List Nat)[i]?)))))), ((r3 0), .inl (cI, 7, .inl (fun _ => 0))), ((r3 1), .inl (cI, 7, .inl (fun _ => 0))), ((r3 2), .inl (cI, 7, .inl (fun _ => 0))), ((r3 3), .inl (cI, 7, .inl (fun _ => 0))), (q4, .inl (cI, 4, .inl (fun _ => 0))), (q5, .inl (cI, 4, .inl (fun _ => 0)))] := hD
  refine lv_aload_n hx hb (dk_at dkX0_init_1 3 rfl) rfl (lv_at hl 0 rfl) ?_
  refine lv_bipush (v := 8) hx hb (dk_at dkX0_init_1 4 rfl) (by decide +kernel) ?_
  refine va_newaC (ty := .int) (a0 := (8, .inl (fun _ => 0))) (N' := 8) hx hb (hts _ (List.mem_of_getElem? (i := 7) rfl)) rfl hK hP hD hS hA 1 rfl (fun _ => rfl) (by decide +kernel) (by decide +kernel) (by decide +kernel) (Nat.le_of_ble_eq_true rfl) (Nat.le_of_ble_eq_true rfl) (dk_at dkX0_init_1 5 rfl) (fun q6 H hP hD hS => ?_)
  have hP : va_P (dC, dI) vwCl [(a0, .inr (0, [.ref q1, .ref q2, .ref q4, .ref q5, .null, .null, .null, .null, .null, .int 0, .int 0, .int 0, .int 0, .int 0, .int 0, .int 0, .int 0])), (q1, .inl (cJ, 1201, .inr (.inl (fun _ => 0)))), (q2, .inl (cQ, 4, .inr (.inr (.inr (.inr (fun i => ([(r3 0), (r3 1), (r3 2), (r3 3)] : List Nat)[i]?)))))), ((r3 0), .inl (cI, 7, .inl (fun _ => 0))), ((r3 1), .inl (cI, 7, .inl (fun _ => 0))), ((r3 2), .inl (cI, 7, .inl (fun _ => 0))), ((r3 3), .inl (cI, 7, .inl (fun _ => 0))), (q4, .inl (cI, 4, .inl (fun _ => 0))), (q5, .inl (cI, 4, .inl (fun _ => 0))), (q6, .inl (cI, 8, .inl (fun _ => 0)))] H := hP
  have hD : va_D A [(a0, .inr (0, [.ref q1, .ref q2, .ref q4, .ref q5, .null, .null, .null, .null, .null, .int 0, .int 0, .int 0, .int 0, .int 0, .int 0, .int 0, .int 0])), (q1, .inl (cJ, 1201, .inr (.inl (fun _ => 0)))), (q2, .inl (cQ, 4, .inr (.inr (.inr (.inr (fun i => ([(r3 0), (r3 1), (r3 2), (r3 3)] : List Nat)[i]?)))))), ((r3 0), .inl (cI, 7, .inl (fun _ => 0))), ((r3 1), .inl (cI, 7, .inl (fun _ => 0))), ((r3 2), .inl (cI, 7, .inl (fun _ => 0))), ((r3 3), .inl (cI, 7, .inl (fun _ => 0))), (q4, .inl (cI, 4, .inl (fun _ => 0))), (q5, .inl (cI, 4, .inl (fun _ => 0))), (q6, .inl (cI, 8, .inl (fun _ => 0)))] := hD
  refine W.widen (k := 9) (n := 1249) (by omega) (by omega) ?_
  refine va_putF (D := (dC, dI)) (ci := 0) (v := .ref q6) (ty := .array .int) (C := RX0) (T := TX0) (N := 17) hx hb hts hiX0 tyX0 tyX0_ok nmX0 hown hK hP hD hS 0 rfl rfl 4 (by decide) (hts _ (List.mem_of_getElem? (i := 11) rfl)) (fun _ h9 => h9) rfl hin rfl (by decide +kernel) rfl rfl (Nat.le_of_ble_eq_true rfl) (dk_at dkX0_init_1 6 rfl) (fun H locs hP hD hS => ?_)
  have hP : va_P (dC, dI) vwCl [(a0, .inr (0, [.ref q1, .ref q2, .ref q4, .ref q5, .ref q6, .null, .null, .null, .null, .int 0, .int 0, .int 0, .int 0, .int 0, .int 0, .int 0, .int 0])), (q1, .inl (cJ, 1201, .inr (.inl (fun _ => 0)))), (q2, .inl (cQ, 4, .inr (.inr (.inr (.inr (fun i => ([(r3 0), (r3 1), (r3 2), (r3 3)] : List Nat)[i]?)))))), ((r3 0), .inl (cI, 7, .inl (fun _ => 0))), ((r3 1), .inl (cI, 7, .inl (fun _ => 0))), ((r3 2), .inl (cI, 7, .inl (fun _ => 0))), ((r3 3), .inl (cI, 7, .inl (fun _ => 0))), (q4, .inl (cI, 4, .inl (fun _ => 0))), (q5, .inl (cI, 4, .inl (fun _ => 0))), (q6, .inl (cI, 8, .inl (fun _ => 0)))] H := hP
  have hD : va_D A [(a0, .inr (0, [.ref q1, .ref q2, .ref q4, .ref q5, .ref q6, .null, .null, .null, .null, .int 0, .int 0, .int 0, .int 0, .int 0, .int 0, .int 0, .int 0])), (q1, .inl (cJ, 1201, .inr (.inl (fun _ => 0)))), (q2, .inl (cQ, 4, .inr (.inr (.inr (.inr (fun i => ([(r3 0), (r3 1), (r3 2), (r3 3)] : List Nat)[i]?)))))), ((r3 0), .inl (cI, 7, .inl (fun _ => 0))), ((r3 1), .inl (cI, 7, .inl (fun _ => 0))), ((r3 2), .inl (cI, 7, .inl (fun _ => 0))), ((r3 3), .inl (cI, 7, .inl (fun _ => 0))), (q4, .inl (cI, 4, .inl (fun _ => 0))), (q5, .inl (cI, 4, .inl (fun _ => 0))), (q6, .inl (cI, 8, .inl (fun _ => 0)))] := hD
  refine lv_aload_n hx hb (dk_at dkX0_init_1 7 rfl) rfl (lv_at hl 0 rfl) ?_
  refine lv_bipush (v := 88) hx hb (dk_at dkX0_init_1 8 rfl) (by decide +kernel) ?_
  refine va_newaC (ty := .int) (a0 := (88, .inl (fun _ => 0))) (N' := 88) hx hb (hts _ (List.mem_of_getElem? (i := 7) rfl)) rfl hK hP hD hS hA 1 rfl (fun _ => rfl) (by decide +kernel) (by decide +kernel) (by decide +kernel) (Nat.le_of_ble_eq_true rfl) (Nat.le_of_ble_eq_true rfl) (dk_at dkX0_init_1 9 rfl) (fun q7 H hP hD hS => ?_)
  have hP : va_P (dC, dI) vwCl [(a0, .inr (0, [.ref q1, .ref q2, .ref q4, .ref q5, .ref q6, .null, .null, .null, .null, .int 0, .int 0, .int 0, .int 0, .int 0, .int 0, .int 0, .int 0])), (q1, .inl (cJ, 1201, .inr (.inl (fun _ => 0)))), (q2, .inl (cQ, 4, .inr (.inr (.inr (.inr (fun i => ([(r3 0), (r3 1), (r3 2), (r3 3)] : List Nat)[i]?)))))), ((r3 0), .inl (cI, 7, .inl (fun _ => 0))), ((r3 1), .inl (cI, 7, .inl (fun _ => 0))), ((r3 2), .inl (cI, 7, .inl (fun _ => 0))), ((r3 3), .inl (cI, 7, .inl (fun _ => 0))), (q4, .inl (cI, 4, .inl (fun _ => 0))), (q5, .inl (cI, 4, .inl (fun _ => 0))), (q6, .inl (cI, 8, .inl (fun _ => 0))), (q7, .inl (cI, 88, .inl (fun _ => 0)))] H := hP
  have hD : va_D A [(a0, .inr (0, [.ref q1, .ref q2, .ref q4, .ref q5, .ref q6, .null, .null, .null, .null, .int 0, .int 0, .int 0, .int 0, .int 0, .int 0, .int 0, .int 0])), (q1, .inl (cJ, 1201, .inr (.inl (fun _ => 0)))), (q2, .inl (cQ, 4, .inr (.inr (.inr (.inr (fun i => ([(r3 0), (r3 1), (r3 2), (r3 3)] : List Nat)[i]?)))))), ((r3 0), .inl (cI, 7, .inl (fun _ => 0))), ((r3 1), .inl (cI, 7, .inl (fun _ => 0))), ((r3 2), .inl (cI, 7, .inl (fun _ => 0))), ((r3 3), .inl (cI, 7, .inl (fun _ => 0))), (q4, .inl (cI, 4, .inl (fun _ => 0))), (q5, .inl (cI, 4, .inl (fun _ => 0))), (q6, .inl (cI, 8, .inl (fun _ => 0))), (q7, .inl (cI, 88, .inl (fun _ => 0)))] := hD
  refine W.widen (k := 10) (n := 1337) (by omega) (by omega) ?_
  refine va_putF (D := (dC, dI)) (ci := 0) (v := .ref q7) (ty := .array .int) (C := RX0) (T := TX0) (N := 17) hx hb hts hiX0 tyX0 tyX0_ok nmX0 hown hK hP hD hS 0 rfl rfl 5 (by decide) (hts _ (List.mem_of_getElem? (i := 12) rfl)) (fun _ h9 => h9) rfl hin rfl (by decide +kernel) rfl rfl (Nat.le_of_ble_eq_true rfl) (dk_at dkX0_init_1 10 rfl) (fun H locs hP hD hS => ?_)
  have hP : va_P (dC, dI) vwCl [(a0, .inr (0, [.ref q1, .ref q2, .ref q4, .ref q5, .ref q6, .ref q7, .null, .null, .null, .int 0, .int 0, .int 0, .int 0, .int 0, .int 0, .int 0, .int 0])), (q1, .inl (cJ, 1201, .inr (.inl (fun _ => 0)))), (q2, .inl (cQ, 4, .inr (.inr (.inr (.inr (fun i => ([(r3 0), (r3 1), (r3 2), (r3 3)] : List Nat)[i]?)))))), ((r3 0), .inl (cI, 7, .inl (fun _ => 0))), ((r3 1), .inl (cI, 7, .inl (fun _ => 0))), ((r3 2), .inl (cI, 7, .inl (fun _ => 0))), ((r3 3), .inl (cI, 7, .inl (fun _ => 0))), (q4, .inl (cI, 4, .inl (fun _ => 0))), (q5, .inl (cI, 4, .inl (fun _ => 0))), (q6, .inl (cI, 8, .inl (fun _ => 0))), (q7, .inl (cI, 88, .inl (fun _ => 0)))] H := hP
  have hD : va_D A [(a0, .inr (0, [.ref q1, .ref q2, .ref q4, .ref q5, .ref q6, .ref q7, .null, .null, .null, .int 0, .int 0, .int 0, .int 0, .int 0, .int 0, .int 0, .int 0])), (q1, .inl (cJ, 1201, .inr (.inl (fun _ => 0)))), (q2, .inl (cQ, 4, .inr (.inr (.inr (.inr (fun i => ([(r3 0), (r3 1), (r3 2), (r3 3)] : List Nat)[i]?)))))), ((r3 0), .inl (cI, 7, .inl (fun _ => 0))), ((r3 1), .inl (cI, 7, .inl (fun _ => 0))), ((r3 2), .inl (cI, 7, .inl (fun _ => 0))), ((r3 3), .inl (cI, 7, .inl (fun _ => 0))), (q4, .inl (cI, 4, .inl (fun _ => 0))), (q5, .inl (cI, 4, .inl (fun _ => 0))), (q6, .inl (cI, 8, .inl (fun _ => 0))), (q7, .inl (cI, 88, .inl (fun _ => 0)))] := hD
  refine lv_aload_n hx hb (dk_at dkX0_init_1 11 rfl) rfl (lv_at hl 0 rfl) ?_
  refine lv_iconst (v := 2) hx hb (dk_at dkX0_init_1 12 rfl) (by decide +kernel) ?_
  refine va_newaC (ty := .int) (a0 := (2, .inl (fun _ => 0))) (N' := 2) hx hb (hts _ (List.mem_of_getElem? (i := 7) rfl)) rfl hK hP hD hS hA 1 rfl (fun _ => rfl) (by decide +kernel) (by decide +kernel) (by decide +kernel) (Nat.le_of_ble_eq_true rfl) (Nat.le_of_ble_eq_true rfl) (dk_at dkX0_init_1 13 rfl) (fun q8 H hP hD hS => ?_)
  have hP : va_P (dC, dI) vwCl [(a0, .inr (0, [.ref q1, .ref q2, .ref q4, .ref q5, .ref q6, .ref q7, .null, .null, .null, .int 0, .int 0, .int 0, .int 0, .int 0, .int 0, .int 0, .int 0])), (q1, .inl (cJ, 1201, .inr (.inl (fun _ => 0)))), (q2, .inl (cQ, 4, .inr (.inr (.inr (.inr (fun i => ([(r3 0), (r3 1), (r3 2), (r3 3)] : List Nat)[i]?)))))), ((r3 0), .inl (cI, 7, .inl (fun _ => 0))), ((r3 1), .inl (cI, 7, .inl (fun _ => 0))), ((r3 2), .inl (cI, 7, .inl (fun _ => 0))), ((r3 3), .inl (cI, 7, .inl (fun _ => 0))), (q4, .inl (cI, 4, .inl (fun _ => 0))), (q5, .inl (cI, 4, .inl (fun _ => 0))), (q6, .inl (cI, 8, .inl (fun _ => 0))), (q7, .inl (cI, 88, .inl (fun _ => 0))), (q8, .inl (cI, 2, .inl (fun _ => 0)))] H := hP
  have hD : va_D A [(a0, .inr (0, [.ref q1, .ref q2, .ref q4, .ref q5, .ref q6, .ref q7, .null, .null, .null, .int 0, .int 0, .int 0, .int 0, .int 0, .int 0, .int 0, .int 0])), (q1, .inl (cJ, 1201, .inr (.inl (fun _ => 0)))), (q2, .inl (cQ, 4, .inr (.inr (.inr (.inr (fun i => ([(r3 0), (r3 1), (r3 2), (r3 3)] : List Nat)[i]?)))))), ((r3 0), .inl (cI, 7, .inl (fun _ => 0))), ((r3 1), .inl (cI, 7, .inl (fun _ => 0))), ((r3 2), .inl (cI, 7, .inl (fun _ => 0))), ((r3 3), .inl (cI, 7, .inl (fun _ => 0))), (q4, .inl (cI, 4, .inl (fun _ => 0))), (q5, .inl (cI, 4, .inl (fun _ => 0))), (q6, .inl (cI, 8, .inl (fun _ => 0))), (q7, .inl (cI, 88, .inl (fun _ => 0))), (q8, .inl (cI, 2, .inl (fun _ => 0)))] := hD
  refine W.widen (k := 11) (n := 1339) (by omega) (by omega) ?_
  refine va_putF (D := (dC, dI)) (ci := 0) (v := .ref q8) (ty := .array .int) (C := RX0) (T := TX0) (N := 17) hx hb hts hiX0 tyX0 tyX0_ok nmX0 hown hK hP hD hS 0 rfl rfl 6 (by decide) (hts _ (List.mem_of_getElem? (i := 13) rfl)) (fun _ h9 => h9) rfl hin rfl (by decide +kernel) rfl rfl (Nat.le_of_ble_eq_true rfl) (dk_at dkX0_init_1 14 rfl) (fun H locs hP hD hS => ?_)
  have hP : va_P (dC, dI) vwCl [(a0, .inr (0, [.ref q1, .ref q2, .ref q4, .ref q5, .ref q6, .ref q7, .ref q8, .null, .null, .int 0, .int 0, .int 0, .int 0, .int 0, .int 0, .int 0, .int 0])), (q1, .inl (cJ, 1201, .inr (.inl (fun _ => 0)))), (q2, .inl (cQ, 4, .inr (.inr (.inr (.inr (fun i => ([(r3 0), (r3 1), (r3 2), (r3 3)] : List Nat)[i]?)))))), ((r3 0), .inl (cI, 7, .inl (fun _ => 0))), ((r3 1), .inl (cI, 7, .inl (fun _ => 0))), ((r3 2), .inl (cI, 7, .inl (fun _ => 0))), ((r3 3), .inl (cI, 7, .inl (fun _ => 0))), (q4, .inl (cI, 4, .inl (fun _ => 0))), (q5, .inl (cI, 4, .inl (fun _ => 0))), (q6, .inl (cI, 8, .inl (fun _ => 0))), (q7, .inl (cI, 88, .inl (fun _ => 0))), (q8, .inl (cI, 2, .inl (fun _ => 0)))] H := hP
  have hD : va_D A [(a0, .inr (0, [.ref q1, .ref q2, .ref q4, .ref q5, .ref q6, .ref q7, .ref q8, .null, .null, .int 0, .int 0, .int 0, .int 0, .int 0, .int 0, .int 0, .int 0])), (q1, .inl (cJ, 1201, .inr (.inl (fun _ => 0)))), (q2, .inl (cQ, 4, .inr (.inr (.inr (.inr (fun i => ([(r3 0), (r3 1), (r3 2), (r3 3)] : List Nat)[i]?)))))), ((r3 0), .inl (cI, 7, .inl (fun _ => 0))), ((r3 1), .inl (cI, 7, .inl (fun _ => 0))), ((r3 2), .inl (cI, 7, .inl (fun _ => 0))), ((r3 3), .inl (cI, 7, .inl (fun _ => 0))), (q4, .inl (cI, 4, .inl (fun _ => 0))), (q5, .inl (cI, 4, .inl (fun _ => 0))), (q6, .inl (cI, 8, .inl (fun _ => 0))), (q7, .inl (cI, 88, .inl (fun _ => 0))), (q8, .inl (cI, 2, .inl (fun _ => 0)))] := hD
  refine lv_aload_n hx hb (dk_at dkX0_init_1 15 rfl) rfl (lv_at hl 0 rfl) ?_
  refine lv_sipush (v := 1201) hx hb (dk_at dkX0_init_2 0 rfl) (by decide +kernel) ?_
  refine va_newaC (ty := .long) (a0 := (1201, .inr (.inl (fun _ => 0)))) (N' := 1201) hx hb (hts _ (List.mem_of_getElem? (i := 4) rfl)) rfl hK hP hD hS hA 2 rfl (fun _ => rfl) (by decide +kernel) (by decide +kernel) (by decide +kernel) (Nat.le_of_ble_eq_true rfl) (Nat.le_of_ble_eq_true rfl) (dk_at dkX0_init_2 1 rfl) (fun q9 H hP hD hS => ?_)
  have hP : va_P (dC, dI) vwCl [(a0, .inr (0, [.ref q1, .ref q2, .ref q4, .ref q5, .ref q6, .ref q7, .ref q8, .null, .null, .int 0, .int 0, .int 0, .int 0, .int 0, .int 0, .int 0, .int 0])), (q1, .inl (cJ, 1201, .inr (.inl (fun _ => 0)))), (q2, .inl (cQ, 4, .inr (.inr (.inr (.inr (fun i => ([(r3 0), (r3 1), (r3 2), (r3 3)] : List Nat)[i]?)))))), ((r3 0), .inl (cI, 7, .inl (fun _ => 0))), ((r3 1), .inl (cI, 7, .inl (fun _ => 0))), ((r3 2), .inl (cI, 7, .inl (fun _ => 0))), ((r3 3), .inl (cI, 7, .inl (fun _ => 0))), (q4, .inl (cI, 4, .inl (fun _ => 0))), (q5, .inl (cI, 4, .inl (fun _ => 0))), (q6, .inl (cI, 8, .inl (fun _ => 0))), (q7, .inl (cI, 88, .inl (fun _ => 0))), (q8, .inl (cI, 2, .inl (fun _ => 0))), (q9, .inl (cJ, 1201, .inr (.inl (fun _ => 0))))] H := hP
  have hD : va_D A [(a0, .inr (0, [.ref q1, .ref q2, .ref q4, .ref q5, .ref q6, .ref q7, .ref q8, .null, .null, .int 0, .int 0, .int 0, .int 0, .int 0, .int 0, .int 0, .int 0])), (q1, .inl (cJ, 1201, .inr (.inl (fun _ => 0)))), (q2, .inl (cQ, 4, .inr (.inr (.inr (.inr (fun i => ([(r3 0), (r3 1), (r3 2), (r3 3)] : List Nat)[i]?)))))), ((r3 0), .inl (cI, 7, .inl (fun _ => 0))), ((r3 1), .inl (cI, 7, .inl (fun _ => 0))), ((r3 2), .inl (cI, 7, .inl (fun _ => 0))), ((r3 3), .inl (cI, 7, .inl (fun _ => 0))), (q4, .inl (cI, 4, .inl (fun _ => 0))), (q5, .inl (cI, 4, .inl (fun _ => 0))), (q6, .inl (cI, 8, .inl (fun _ => 0))), (q7, .inl (cI, 88, .inl (fun _ => 0))), (q8, .inl (cI, 2, .inl (fun _ => 0))), (q9, .inl (cJ, 1201, .inr (.inl (fun _ => 0))))] := hD
  refine W.widen (k := 12) (n := 2540) (by omega) (by omega) ?_
  refine va_put (D := (dC, dI)) (ci := 0) (v := .ref q9) (ty := .array .long) (C := RX0) (T := TX0) (N := 17) hx hb hts hiX0 tyX0 tyX0_ok nmX0 hown hK hP hD hS 0 rfl rfl 7 (by decide) (hts _ (List.mem_of_getElem? (i := 14) rfl)) (fun _ h9 => h9) rfl (by decide +kernel) rfl rfl (Nat.le_of_ble_eq_true rfl) (dk_at dkX0_init_2 2 rfl) (fun H locs hP hD hS => ?_)
  have hP : va_P (dC, dI) vwCl [(a0, .inr (0, [.ref q1, .ref q2, .ref q4, .ref q5, .ref q6, .ref q7, .ref q8, .ref q9, .null, .int 0, .int 0, .int 0, .int 0, .int 0, .int 0, .int 0, .int 0])), (q1, .inl (cJ, 1201, .inr (.inl (fun _ => 0)))), (q2, .inl (cQ, 4, .inr (.inr (.inr (.inr (fun i => ([(r3 0), (r3 1), (r3 2), (r3 3)] : List Nat)[i]?)))))), ((r3 0), .inl (cI, 7, .inl (fun _ => 0))), ((r3 1), .inl (cI, 7, .inl (fun _ => 0))), ((r3 2), .inl (cI, 7, .inl (fun _ => 0))), ((r3 3), .inl (cI, 7, .inl (fun _ => 0))), (q4, .inl (cI, 4, .inl (fun _ => 0))), (q5, .inl (cI, 4, .inl (fun _ => 0))), (q6, .inl (cI, 8, .inl (fun _ => 0))), (q7, .inl (cI, 88, .inl (fun _ => 0))), (q8, .inl (cI, 2, .inl (fun _ => 0))), (q9, .inl (cJ, 1201, .inr (.inl (fun _ => 0))))] H := hP
  have hD : va_D A [(a0, .inr (0, [.ref q1, .ref q2, .ref q4, .ref q5, .ref q6, .ref q7, .ref q8, .ref q9, .null, .int 0, .int 0, .int 0, .int 0, .int 0, .int 0, .int 0, .int 0])), (q1, .inl (cJ, 1201, .inr (.inl (fun _ => 0)))), (q2, .inl (cQ, 4, .inr (.inr (.inr (.inr (fun i => ([(r3 0), (r3 1), (r3 2), (r3 3)] : List Nat)[i]?)))))), ((r3 0), .inl (cI, 7, .inl (fun _ => 0))), ((r3 1), .inl (cI, 7, .inl (fun _ => 0))), ((r3 2), .inl (cI, 7, .inl (fun _ => 0))), ((r3 3), .inl (cI, 7, .inl (fun _ => 0))), (q4, .inl (cI, 4, .inl (fun _ => 0))), (q5, .inl (cI, 4, .inl (fun _ => 0))), (q6, .inl (cI, 8, .inl (fun _ => 0))), (q7, .inl (cI, 88, .inl (fun _ => 0))), (q8, .inl (cI, 2, .inl (fun _ => 0))), (q9, .inl (cJ, 1201, .inr (.inl (fun _ => 0))))] := hD
  refine lv_aload_n hx hb (dk_at dkX0_init_2 3 rfl) rfl (lv_at hl 0 rfl) ?_
  refine lv_sipush (v := 1201) hx hb (dk_at dkX0_init_2 4 rfl) (by decide +kernel) ?_
  refine va_newaC (ty := .long) (a0 := (1201, .inr (.inl (fun _ => 0)))) (N' := 1201) hx hb (hts _ (List.mem_of_getElem? (i := 4) rfl)) rfl hK hP hD hS hA 2 rfl (fun _ => rfl) (by decide +kernel) (by decide +kernel) (by decide +kernel) (Nat.le_of_ble_eq_true rfl) (Nat.le_of_ble_eq_true rfl) (dk_at dkX0_init_2 5 rfl) (fun q10 H hP hD hS => ?_)
  have hP : va_P (dC, dI) vwCl [(a0, .inr (0, [.ref q1, .ref q2, .ref q4, .ref q5, .ref q6, .ref q7, .ref q8, .ref q9, .null, .int 0, .int 0, .int 0, .int 0, .int 0, .int 0, .int 0, .int 0])), (q1, .inl (cJ, 1201, .inr (.inl (fun _ => 0)))), (q2, .inl (cQ, 4, .inr (.inr (.inr (.inr (fun i => ([(r3 0), (r3 1), (r3 2), (r3 3)] : List Nat)[i]?)))))), ((r3 0), .inl (cI, 7, .inl (fun _ => 0))), ((r3 1), .inl (cI, 7, .inl (fun _ => 0))), ((r3 2), .inl (cI, 7, .inl (fun _ => 0))), ((r3 3), .inl (cI, 7, .inl (fun _ => 0))), (q4, .inl (cI, 4, .inl (fun _ => 0))), (q5, .inl (cI, 4, .inl (fun _ => 0))), (q6, .inl (cI, 8, .inl (fun _ => 0))), (q7, .inl (cI, 88, .inl (fun _ => 0))), (q8, .inl (cI, 2, .inl (fun _ => 0))), (q9, .inl (cJ, 1201, .inr (.inl (fun _ => 0)))), (q10, .inl (cJ, 1201, .inr (.inl (fun _ => 0))))] H := hP
  have hD : va_D A [(a0, .inr (0, [.ref q1, .ref q2, .ref q4, .ref q5, .ref q6, .ref q7, .ref q8, .ref q9, .null, .int 0, .int 0, .int 0, .int 0, .int 0, .int 0, .int 0, .int 0])), (q1, .inl (cJ, 1201, .inr (.inl (fun _ => 0)))), (q2, .inl (cQ, 4, .inr (.inr (.inr (.inr (fun i => ([(r3 0), (r3 1), (r3 2), (r3 3)] : List Nat)[i]?)))))), ((r3 0), .inl (cI, 7, .inl (fun _ => 0))), ((r3 1), .inl (cI, 7, .inl (fun _ => 0))), ((r3 2), .inl (cI, 7, .inl (fun _ => 0))), ((r3 3), .inl (cI, 7, .inl (fun _ => 0))), (q4, .inl (cI, 4, .inl (fun _ => 0))), (q5, .inl (cI, 4, .inl (fun _ => 0))), (q6, .inl (cI, 8, .inl (fun _ => 0))), (q7, .inl (cI, 88, .inl (fun _ => 0))), (q8, .inl (cI, 2, .inl (fun _ => 0))), (q9, .inl (cJ, 1201, .inr (.inl (fun _ => 0)))), (q10, .inl (cJ, 1201, .inr (.inl (fun _ => 0))))] := hD
  refine W.widen (k := 13) (n := 3741) (by omega) (by omega) ?_
  refine va_put (D := (dC, dI)) (ci := 0) (v := .ref q10) (ty := .array .long) (C := RX0) (T := TX0) (N := 17) hx hb hts hiX0 tyX0 tyX0_ok nmX0 hown hK hP hD hS 0 rfl rfl 8 (by decide) (hts _ (List.mem_of_getElem? (i := 15) rfl)) (fun _ h9 => h9) rfl (by decide +kernel) rfl rfl (Nat.le_of_ble_eq_true rfl) (dk_at dkX0_init_2 6 rfl) (fun H locs hP hD hS => ?_)
  have hP : va_P (dC, dI) vwCl [(a0, .inr (0, [.ref q1, .ref q2, .ref q4, .ref q5, .ref q6, .ref q7, .ref q8, .ref q9, .ref q10, .int 0, .int 0, .int 0, .int 0, .int 0, .int 0, .int 0, .int 0])), (q1, .inl (cJ, 1201, .inr (.inl (fun _ => 0)))), (q2, .inl (cQ, 4, .inr (.inr (.inr (.inr (fun i => ([(r3 0), (r3 1), (r3 2), (r3 3)] : List Nat)[i]?)))))), ((r3 0), .inl (cI, 7, .inl (fun _ => 0))), ((r3 1), .inl (cI, 7, .inl (fun _ => 0))), ((r3 2), .inl (cI, 7, .inl (fun _ => 0))), ((r3 3), .inl (cI, 7, .inl (fun _ => 0))), (q4, .inl (cI, 4, .inl (fun _ => 0))), (q5, .inl (cI, 4, .inl (fun _ => 0))), (q6, .inl (cI, 8, .inl (fun _ => 0))), (q7, .inl (cI, 88, .inl (fun _ => 0))), (q8, .inl (cI, 2, .inl (fun _ => 0))), (q9, .inl (cJ, 1201, .inr (.inl (fun _ => 0)))), (q10, .inl (cJ, 1201, .inr (.inl (fun _ => 0))))] H := hP
  have hD : va_D A [(a0, .inr (0, [.ref q1, .ref q2, .ref q4, .ref q5, .ref q6, .ref q7, .ref q8, .ref q9, .ref q10, .int 0, .int 0, .int 0, .int 0, .int 0, .int 0, .int 0, .int 0])), (q1, .inl (cJ, 1201, .inr (.inl (fun _ => 0)))), (q2, .inl (cQ, 4, .inr (.inr (.inr (.inr (fun i => ([(r3 0), (r3 1), (r3 2), (r3 3)] : List Nat)[i]?)))))), ((r3 0), .inl (cI, 7, .inl (fun _ => 0))), ((r3 1), .inl (cI, 7, .inl (fun _ => 0))), ((r3 2), .inl (cI, 7, .inl (fun _ => 0))), ((r3 3), .inl (cI, 7, .inl (fun _ => 0))), (q4, .inl (cI, 4, .inl (fun _ => 0))), (q5, .inl (cI, 4, .inl (fun _ => 0))), (q6, .inl (cI, 8, .inl (fun _ => 0))), (q7, .inl (cI, 88, .inl (fun _ => 0))), (q8, .inl (cI, 2, .inl (fun _ => 0))), (q9, .inl (cJ, 1201, .inr (.inl (fun _ => 0)))), (q10, .inl (cJ, 1201, .inr (.inl (fun _ => 0))))] := hD
  refine lv_aload_n hx hb (dk_at dkX0_init_2 7 rfl) rfl (lv_at hl 0 rfl) ?_
  refine lv_iconst (v := 0) hx hb (dk_at dkX0_init_2 8 rfl) (by decide +kernel) ?_
  refine va_put (D := (dC, dI)) (ci := 0) (v := .int 0) (ty := .int) (C := RX0) (T := TX0) (N := 17) hx hb hts hiX0 tyX0 tyX0_ok nmX0 hown hK hP hD hS 0 rfl rfl 9 (by decide) (hts _ (List.mem_of_getElem? (i := 16) rfl)) (fun _ h9 => h9) rfl (by decide +kernel) rfl rfl (Nat.le_of_ble_eq_true rfl) (dk_at dkX0_init_2 9 rfl) (fun H locs hP hD hS => ?_)
  have hP : va_P (dC, dI) vwCl [(a0, .inr (0, [.ref q1, .ref q2, .ref q4, .ref q5, .ref q6, .ref q7, .ref q8, .ref q9, .ref q10, .int 0, .int 0, .int 0, .int 0, .int 0, .int 0, .int 0, .int 0])), (q1, .inl (cJ, 1201, .inr (.inl (fun _ => 0)))), (q2, .inl (cQ, 4, .inr (.inr (.inr (.inr (fun i => ([(r3 0), (r3 1), (r3 2), (r3 3)] : List Nat)[i]?)))))), ((r3 0), .inl (cI, 7, .inl (fun _ => 0))), ((r3 1), .inl (cI, 7, .inl (fun _ => 0))), ((r3 2), .inl (cI, 7, .inl (fun _ => 0))), ((r3 3), .inl (cI, 7, .inl (fun _ => 0))), (q4, .inl (cI, 4, .inl (fun _ => 0))), (q5, .inl (cI, 4, .inl (fun _ => 0))), (q6, .inl (cI, 8, .inl (fun _ => 0))), (q7, .inl (cI, 88, .inl (fun _ => 0))), (q8, .inl (cI, 2, .inl (fun _ => 0))), (q9, .inl (cJ, 1201, .inr (.inl (fun _ => 0)))), (q10, .inl (cJ, 1201, .inr (.inl (fun _ => 0))))] H := hP
  have hD : va_D A [(a0, .inr (0, [.ref q1, .ref q2, .ref q4, .ref q5, .ref q6, .ref q7, .ref q8, .ref q9, .ref q10, .int 0, .int 0, .int 0, .int 0, .int 0, .int 0, .int 0, .int 0])), (q1, .inl (cJ, 1201, .inr (.inl (fun _ => 0)))), (q2, .inl (cQ, 4, .inr (.inr (.inr (.inr (fun i => ([(r3 0), (r3 1), (r3 2), (r3 3)] : List Nat)[i]?)))))), ((r3 0), .inl (cI, 7, .inl (fun _ => 0))), ((r3 1), .inl (cI, 7, .inl (fun _ => 0))), ((r3 2), .inl (cI, 7, .inl (fun _ => 0))), ((r3 3), .inl (cI, 7, .inl (fun _ => 0))), (q4, .inl (cI, 4, .inl (fun _ => 0))), (q5, .inl (cI, 4, .inl (fun _ => 0))), (q6, .inl (cI, 8, .inl (fun _ => 0))), (q7, .inl (cI, 88, .inl (fun _ => 0))), (q8, .inl (cI, 2, .inl (fun _ => 0))), (q9, .inl (cJ, 1201, .inr (.inl (fun _ => 0)))), (q10, .inl (cJ, 1201, .inr (.inl (fun _ => 0))))] := hD
  refine lv_aload_n hx hb (dk_at dkX0_init_2 10 rfl) rfl (lv_at hl 0 rfl) ?_
  refine lv_iconst (v := 1) hx hb (dk_at dkX0_init_2 11 rfl) (by decide +kernel) ?_
  refine va_put (D := (dC, dI)) (ci := 0) (v := .int 1) (ty := .int) (C := RX0) (T := TX0) (N := 17) hx hb hts hiX0 tyX0 tyX0_ok nmX0 hown hK hP hD hS 0 rfl rfl 10 (by decide) (hts _ (List.mem_of_getElem? (i := 17) rfl)) (fun _ h9 => h9) rfl (by decide +kernel) rfl rfl (Nat.le_of_ble_eq_true rfl) (dk_at dkX0_init_2 12 rfl) (fun H locs hP hD hS => ?_)
  have hP : va_P (dC, dI) vwCl [(a0, .inr (0, [.ref q1, .ref q2, .ref q4, .ref q5, .ref q6, .ref q7, .ref q8, .ref q9, .ref q10, .int 0, .int 1, .int 0, .int 0, .int 0, .int 0, .int 0, .int 0])), (q1, .inl (cJ, 1201, .inr (.inl (fun _ => 0)))), (q2, .inl (cQ, 4, .inr (.inr (.inr (.inr (fun i => ([(r3 0), (r3 1), (r3 2), (r3 3)] : List Nat)[i]?)))))), ((r3 0), .inl (cI, 7, .inl (fun _ => 0))), ((r3 1), .inl (cI, 7, .inl (fun _ => 0))), ((r3 2), .inl (cI, 7, .inl (fun _ => 0))), ((r3 3), .inl (cI, 7, .inl (fun _ => 0))), (q4, .inl (cI, 4, .inl (fun _ => 0))), (q5, .inl (cI, 4, .inl (fun _ => 0))), (q6, .inl (cI, 8, .inl (fun _ => 0))), (q7, .inl (cI, 88, .inl (fun _ => 0))), (q8, .inl (cI, 2, .inl (fun _ => 0))), (q9, .inl (cJ, 1201, .inr (.inl (fun _ => 0)))), (q10, .inl (cJ, 1201, .inr (.inl (fun _ => 0))))] H := hP
  have hD : va_D A [(a0, .inr (0, [.ref q1, .ref q2, .ref q4, .ref q5, .ref q6, .ref q7, .ref q8, .ref q9, .ref q10, .int 0, .int 1, .int 0, .int 0, .int 0, .int 0, .int 0, .int 0])), (q1, .inl (cJ, 1201, .inr (.inl (fun _ => 0)))), (q2, .inl (cQ, 4, .inr (.inr (.inr (.inr (fun i => ([(r3 0), (r3 1), (r3 2), (r3 3)] : List Nat)[i]?)))))), ((r3 0), .inl (cI, 7, .inl (fun _ => 0))), ((r3 1), .inl (cI, 7, .inl (fun _ => 0))), ((r3 2), .inl (cI, 7, .inl (fun _ => 0))), ((r3 3), .inl (cI, 7, .inl (fun _ => 0))), (q4, .inl (cI, 4, .inl (fun _ => 0))), (q5, .inl (cI, 4, .inl (fun _ => 0))), (q6, .inl (cI, 8, .inl (fun _ => 0))), (q7, .inl (cI, 88, .inl (fun _ => 0))), (q8, .inl (cI, 2, .inl (fun _ => 0))), (q9, .inl (cJ, 1201, .inr (.inl (fun _ => 0)))), (q10, .inl (cJ, 1201, .inr (.inl (fun _ => 0))))] := hD
  refine lv_aload_n hx hb (dk_at dkX0_init_2 13 rfl) rfl (lv_at hl 0 rfl) ?_
  refine lv_iconst (v := 0) hx hb (dk_at dkX0_init_2 14 rfl) (by decide +kernel) ?_
  refine va_put (D := (dC, dI)) (ci := 0) (v := .int 0) (ty := .int) (C := RX0) (T := TX0) (N := 17) hx hb hts hiX0 tyX0 tyX0_ok nmX0 hown hK hP hD hS 0 rfl rfl 11 (by decide) (hts _ (List.mem_of_getElem? (i := 18) rfl)) (fun _ h9 => h9) rfl (by decide +kernel) rfl rfl (Nat.le_of_ble_eq_true rfl) (dk_at dkX0_init_2 15 rfl) (fun H locs hP hD hS => ?_)
  have hP : va_P (dC, dI) vwCl [(a0, .inr (0, [.ref q1, .ref q2, .ref q4, .ref q5, .ref q6, .ref q7, .ref q8, .ref q9, .ref q10, .int 0, .int 1, .int 0, .int 0, .int 0, .int 0, .int 0, .int 0])), (q1, .inl (cJ, 1201, .inr (.inl (fun _ => 0)))), (q2, .inl (cQ, 4, .inr (.inr (.inr (.inr (fun i => ([(r3 0), (r3 1), (r3 2), (r3 3)] : List Nat)[i]?)))))), ((r3 0), .inl (cI, 7, .inl (fun _ => 0))), ((r3 1), .inl (cI, 7, .inl (fun _ => 0))), ((r3 2), .inl (cI, 7, .inl (fun _ => 0))), ((r3 3), .inl (cI, 7, .inl (fun _ => 0))), (q4, .inl (cI, 4, .inl (fun _ => 0))), (q5, .inl (cI, 4, .inl (fun _ => 0))), (q6, .inl (cI, 8, .inl (fun _ => 0))), (q7, .inl (cI, 88, .inl (fun _ => 0))), (q8, .inl (cI, 2, .inl (fun _ => 0))), (q9, .inl (cJ, 1201, .inr (.inl (fun _ => 0)))), (q10, .inl (cJ, 1201, .inr (.inl (fun _ => 0))))] H := hP
  have hD : va_D A [(a0, .inr (0, [.ref q1, .ref q2, .ref q4, .ref q5, .ref q6, .ref q7, .ref q8, .ref q9, .ref q10, .int 0, .int 1, .int 0, .int 0, .int 0, .int 0, .int 0, .int 0])), (q1, .inl (cJ, 1201, .inr (.inl (fun _ => 0)))), (q2, .inl (cQ, 4, .inr (.inr (.inr (.inr (fun i => ([(r3 0), (r3 1), (r3 2), (r3 3)] : List Nat)[i]?)))))), ((r3 0), .inl (cI, 7, .inl (fun _ => 0))), ((r3 1), .inl (cI, 7, .inl (fun _ => 0))), ((r3 2), .inl (cI, 7, .inl (fun _ => 0))), ((r3 3), .inl (cI, 7, .inl (fun _ => 0))), (q4, .inl (cI, 4, .inl (fun _ => 0))), (q5, .inl (cI, 4, .inl (fun _ => 0))), (q6, .inl (cI, 8, .inl (fun _ => 0))), (q7, .inl (cI, 88, .inl (fun _ => 0))), (q8, .inl (cI, 2, .inl (fun _ => 0))), (q9, .inl (cJ, 1201, .inr (.inl (fun _ => 0)))), (q10, .inl (cJ, 1201, .inr (.inl (fun _ => 0))))] := hD
  refine lv_aload_n hx hb (dk_at dkX0_init_3 0 rfl) rfl (lv_at hl 0 rfl) ?_
  refine lv_iconst (v := 0) hx hb (dk_at dkX0_init_3 1 rfl) (by decide +kernel) ?_
  refine va_put (D := (dC, dI)) (ci := 0) (v := .int 0) (ty := .int) (C := RX0) (T := TX0) (N := 17) hx hb hts hiX0 tyX0 tyX0_ok nmX0 hown hK hP hD hS 0 rfl rfl 12 (by decide) (hts _ (List.mem_of_getElem? (i := 19) rfl)) (fun _ h9 => h9) rfl (by decide +kernel) rfl rfl (Nat.le_of_ble_eq_true rfl) (dk_at dkX0_init_3 2 rfl) (fun H locs hP hD hS => ?_)
  have hP : va_P (dC, dI) vwCl [(a0, .inr (0, [.ref q1, .ref q2, .ref q4, .ref q5, .ref q6, .ref q7, .ref q8, .ref q9, .ref q10, .int 0, .int 1, .int 0, .int 0, .int 0, .int 0, .int 0, .int 0])), (q1, .inl (cJ, 1201, .inr (.inl (fun _ => 0)))), (q2, .inl (cQ, 4, .inr (.inr (.inr (.inr (fun i => ([(r3 0), (r3 1), (r3 2), (r3 3)] : List Nat)[i]?)))))), ((r3 0), .inl (cI, 7, .inl (fun _ => 0))), ((r3 1), .inl (cI, 7, .inl (fun _ => 0))), ((r3 2), .inl (cI, 7, .inl (fun _ => 0))), ((r3 3), .inl (cI, 7, .inl (fun _ => 0))), (q4, .inl (cI, 4, .inl (fun _ => 0))), (q5, .inl (cI, 4, .inl (fun _ => 0))), (q6, .inl (cI, 8, .inl (fun _ => 0))), (q7, .inl (cI, 88, .inl (fun _ => 0))), (q8, .inl (cI, 2, .inl (fun _ => 0))), (q9, .inl (cJ, 1201, .inr (.inl (fun _ => 0)))), (q10, .inl (cJ, 1201, .inr (.inl (fun _ => 0))))] H := hP
  have hD : va_D A [(a0, .inr (0, [.ref q1, .ref q2, .ref q4, .ref q5, .ref q6, .ref q7, .ref q8, .ref q9, .ref q10, .int 0, .int 1, .int 0, .int 0, .int 0, .int 0, .int 0, .int 0])), (q1, .inl (cJ, 1201, .inr (.inl (fun _ => 0)))), (q2, .inl (cQ, 4, .inr (.inr (.inr (.inr (fun i => ([(r3 0), (r3 1), (r3 2), (r3 3)] : List Nat)[i]?)))))), ((r3 0), .inl (cI, 7, .inl (fun _ => 0))), ((r3 1), .inl (cI, 7, .inl (fun _ => 0))), ((r3 2), .inl (cI, 7, .inl (fun _ => 0))), ((r3 3), .inl (cI, 7, .inl (fun _ => 0))), (q4, .inl (cI, 4, .inl (fun _ => 0))), (q5, .inl (cI, 4, .inl (fun _ => 0))), (q6, .inl (cI, 8, .inl (fun _ => 0))), (q7, .inl (cI, 88, .inl (fun _ => 0))), (q8, .inl (cI, 2, .inl (fun _ => 0))), (q9, .inl (cJ, 1201, .inr (.inl (fun _ => 0)))), (q10, .inl (cJ, 1201, .inr (.inl (fun _ => 0))))] := hD
  refine lv_aload_n hx hb (dk_at dkX0_init_3 3 rfl) rfl (lv_at hl 0 rfl) ?_
  refine lv_iconst (v := 3) hx hb (dk_at dkX0_init_3 4 rfl) (by decide +kernel) ?_
  refine va_put (D := (dC, dI)) (ci := 0) (v := .int 3) (ty := .int) (C := RX0) (T := TX0) (N := 17) hx hb hts hiX0 tyX0 tyX0_ok nmX0 hown hK hP hD hS 0 rfl rfl 13 (by decide) (hts _ (List.mem_of_getElem? (i := 20) rfl)) (fun _ h9 => h9) rfl (by decide +kernel) rfl rfl (Nat.le_of_ble_eq_true rfl) (dk_at dkX0_init_3 5 rfl) (fun H locs hP hD hS => ?_)
  have hP : va_P (dC, dI) vwCl [(a0, .inr (0, [.ref q1, .ref q2, .ref q4, .ref q5, .ref q6, .ref q7, .ref q8, .ref q9, .ref q10, .int 0, .int 1, .int 0, .int 0, .int 3, .int 0, .int 0, .int 0])), (q1, .inl (cJ, 1201, .inr (.inl (fun _ => 0)))), (q2, .inl (cQ, 4, .inr (.inr (.inr (.inr (fun i => ([(r3 0), (r3 1), (r3 2), (r3 3)] : List Nat)[i]?)))))), ((r3 0), .inl (cI, 7, .inl (fun _ => 0))), ((r3 1), .inl (cI, 7, .inl (fun _ => 0))), ((r3 2), .inl (cI, 7, .inl (fun _ => 0))), ((r3 3), .inl (cI, 7, .inl (fun _ => 0))), (q4, .inl (cI, 4, .inl (fun _ => 0))), (q5, .inl (cI, 4, .inl (fun _ => 0))), (q6, .inl (cI, 8, .inl (fun _ => 0))), (q7, .inl (cI, 88, .inl (fun _ => 0))), (q8, .inl (cI, 2, .inl (fun _ => 0))), (q9, .inl (cJ, 1201, .inr (.inl (fun _ => 0)))), (q10, .inl (cJ, 1201, .inr (.inl (fun _ => 0))))] H := hP
  have hD : va_D A [(a0, .inr (0, [.ref q1, .ref q2, .ref q4, .ref q5, .ref q6, .ref q7, .ref q8, .ref q9, .ref q10, .int 0, .int 1, .int 0, .int 0, .int 3, .int 0, .int 0, .int 0])), (q1, .inl (cJ, 1201, .inr (.inl (fun _ => 0)))), (q2, .inl (cQ, 4, .inr (.inr (.inr (.inr (fun i => ([(r3 0), (r3 1), (r3 2), (r3 3)] : List Nat)[i]?)))))), ((r3 0), .inl (cI, 7, .inl (fun _ => 0))), ((r3 1), .inl (cI, 7, .inl (fun _ => 0))), ((r3 2), .inl (cI, 7, .inl (fun _ => 0))), ((r3 3), .inl (cI, 7, .inl (fun _ => 0))), (q4, .inl (cI, 4, .inl (fun _ => 0))), (q5, .inl (cI, 4, .inl (fun _ => 0))), (q6, .inl (cI, 8, .inl (fun _ => 0))), (q7, .inl (cI, 88, .inl (fun _ => 0))), (q8, .inl (cI, 2, .inl (fun _ => 0))), (q9, .inl (cJ, 1201, .inr (.inl (fun _ => 0)))), (q10, .inl (cJ, 1201, .inr (.inl (fun _ => 0))))] := hD
  refine lv_aload_n hx hb (dk_at dkX0_init_3 6 rfl) rfl (lv_at hl 0 rfl) ?_
  refine lv_iconst (v := 0) hx hb (dk_at dkX0_init_3 7 rfl) (by decide +kernel) ?_
  refine va_put (D := (dC, dI)) (ci := 0) (v := .int 0) (ty := .int) (C := RX0) (T := TX0) (N := 17) hx hb hts hiX0 tyX0 tyX0_ok nmX0 hown hK hP hD hS 0 rfl rfl 14 (by decide) (hts _ (List.mem_of_getElem? (i := 21) rfl)) (fun _ h9 => h9) rfl (by decide +kernel) rfl rfl (Nat.le_of_ble_eq_true rfl) (dk_at dkX0_init_3 8 rfl) (fun H locs hP hD hS => ?_)
  have hP : va_P (dC, dI) vwCl [(a0, .inr (0, [.ref q1, .ref q2, .ref q4, .ref q5, .ref q6, .ref q7, .ref q8, .ref q9, .ref q10, .int 0, .int 1, .int 0, .int 0, .int 3, .int 0, .int 0, .int 0])), (q1, .inl (cJ, 1201, .inr (.inl (fun _ => 0)))), (q2, .inl (cQ, 4, .inr (.inr (.inr (.inr (fun i => ([(r3 0), (r3 1), (r3 2), (r3 3)] : List Nat)[i]?)))))), ((r3 0), .inl (cI, 7, .inl (fun _ => 0))), ((r3 1), .inl (cI, 7, .inl (fun _ => 0))), ((r3 2), .inl (cI, 7, .inl (fun _ => 0))), ((r3 3), .inl (cI, 7, .inl (fun _ => 0))), (q4, .inl (cI, 4, .inl (fun _ => 0))), (q5, .inl (cI, 4, .inl (fun _ => 0))), (q6, .inl (cI, 8, .inl (fun _ => 0))), (q7, .inl (cI, 88, .inl (fun _ => 0))), (q8, .inl (cI, 2, .inl (fun _ => 0))), (q9, .inl (cJ, 1201, .inr (.inl (fun _ => 0)))), (q10, .inl (cJ, 1201, .inr (.inl (fun _ => 0))))] H := hP
  have hD : va_D A [(a0, .inr (0, [.ref q1, .ref q2, .ref q4, .ref q5, .ref q6, .ref q7, .ref q8, .ref q9, .ref q10, .int 0, .int 1, .int 0, .int 0, .int 3, .int 0, .int 0, .int 0])), (q1, .inl (cJ, 1201, .inr (.inl (fun _ => 0)))), (q2, .inl (cQ, 4, .inr (.inr (.inr (.inr (fun i => ([(r3 0), (r3 1), (r3 2), (r3 3)] : List Nat)[i]?)))))), ((r3 0), .inl (cI, 7, .inl (fun _ => 0))), ((r3 1), .inl (cI, 7, .inl (fun _ => 0))), ((r3 2), .inl (cI, 7, .inl (fun _ => 0))), ((r3 3), .inl (cI, 7, .inl (fun _ => 0))), (q4, .inl (cI, 4, .inl (fun _ => 0))), (q5, .inl (cI, 4, .inl (fun _ => 0))), (q6, .inl (cI, 8, .inl (fun _ => 0))), (q7, .inl (cI, 88, .inl (fun _ => 0))), (q8, .inl (cI, 2, .inl (fun _ => 0))), (q9, .inl (cJ, 1201, .inr (.inl (fun _ => 0)))), (q10, .inl (cJ, 1201, .inr (.inl (fun _ => 0))))] := hD
  refine lv_aload_n hx hb (dk_at dkX0_init_3 9 rfl) rfl (lv_at hl 0 rfl) ?_
  refine lv_iconst (v := 0) hx hb (dk_at dkX0_init_3 10 rfl) (by decide +kernel) ?_
  refine va_put (D := (dC, dI)) (ci := 0) (v := .int 0) (ty := .int) (C := RX0) (T := TX0) (N := 17) hx hb hts hiX0 tyX0 tyX0_ok nmX0 hown hK hP hD hS 0 rfl rfl 15 (by decide) (hts _ (List.mem_of_getElem? (i := 22) rfl)) (fun _ h9 => h9) rfl (by decide +kernel) rfl rfl (Nat.le_of_ble_eq_true rfl) (dk_at dkX0_init_3 11 rfl) (fun H locs hP hD hS => ?_)
  have hP : va_P (dC, dI) vwCl [(a0, .inr (0, [.ref q1, .ref q2, .ref q4, .ref q5, .ref q6, .ref q7, .ref q8, .ref q9, .ref q10, .int 0, .int 1, .int 0, .int 0, .int 3, .int 0, .int 0, .int 0])), (q1, .inl (cJ, 1201, .inr (.inl (fun _ => 0)))), (q2, .inl (cQ, 4, .inr (.inr (.inr (.inr (fun i => ([(r3 0), (r3 1), (r3 2), (r3 3)] : List Nat)[i]?)))))), ((r3 0), .inl (cI, 7, .inl (fun _ => 0))), ((r3 1), .inl (cI, 7, .inl (fun _ => 0))), ((r3 2), .inl (cI, 7, .inl (fun _ => 0))), ((r3 3), .inl (cI, 7, .inl (fun _ => 0))), (q4, .inl (cI, 4, .inl (fun _ => 0))), (q5, .inl (cI, 4, .inl (fun _ => 0))), (q6, .inl (cI, 8, .inl (fun _ => 0))), (q7, .inl (cI, 88, .inl (fun _ => 0))), (q8, .inl (cI, 2, .inl (fun _ => 0))), (q9, .inl (cJ, 1201, .inr (.inl (fun _ => 0)))), (q10, .inl (cJ, 1201, .inr (.inl (fun _ => 0))))] H := hP
  have hD : va_D A [(a0, .inr (0, [.ref q1, .ref q2, .ref q4, .ref q5, .ref q6, .ref q7, .ref q8, .ref q9, .ref q10, .int 0, .int 1, .int 0, .int 0, .int 3, .int 0, .int 0, .int 0])), (q1, .inl (cJ, 1201, .inr (.inl (fun _ => 0)))), (q2, .inl (cQ, 4, .inr (.inr (.inr (.inr (fun i => ([(r3 0), (r3 1), (r3 2), (r3 3)] : List Nat)[i]?)))))), ((r3 0), .inl (cI, 7, .inl (fun _ => 0))), ((r3 1), .inl (cI, 7, .inl (fun _ => 0))), ((r3 2), .inl (cI, 7, .inl (fun _ => 0))), ((r3 3), .inl (cI, 7, .inl (fun _ => 0))), (q4, .inl (cI, 4, .inl (fun _ => 0))), (q5, .inl (cI, 4, .inl (fun _ => 0))), (q6, .inl (cI, 8, .inl (fun _ => 0))), (q7, .inl (cI, 88, .inl (fun _ => 0))), (q8, .inl (cI, 2, .inl (fun _ => 0))), (q9, .inl (cJ, 1201, .inr (.inl (fun _ => 0)))), (q10, .inl (cJ, 1201, .inr (.inl (fun _ => 0))))] := hD
  refine lv_aload_n hx hb (dk_at dkX0_init_3 12 rfl) rfl (lv_at hl 0 rfl) ?_
  refine lv_iconst (v := (-1)) hx hb (dk_at dkX0_init_3 13 rfl) (by decide +kernel) ?_
  refine va_put (D := (dC, dI)) (ci := 0) (v := .int (-1)) (ty := .int) (C := RX0) (T := TX0) (N := 17) hx hb hts hiX0 tyX0 tyX0_ok nmX0 hown hK hP hD hS 0 rfl rfl 16 (by decide) (hts _ (List.mem_of_getElem? (i := 23) rfl)) (fun _ h9 => h9) rfl (by decide +kernel) rfl rfl (Nat.le_of_ble_eq_true rfl) (dk_at dkX0_init_3 14 rfl) (fun H locs hP hD hS => ?_)
  have hP : va_P (dC, dI) vwCl [(a0, .inr (0, [.ref q1, .ref q2, .ref q4, .ref q5, .ref q6, .ref q7, .ref q8, .ref q9, .ref q10, .int 0, .int 1, .int 0, .int 0, .int 3, .int 0, .int 0, .int (-1)])), (q1, .inl (cJ, 1201, .inr (.inl (fun _ => 0)))), (q2, .inl (cQ, 4, .inr (.inr (.inr (.inr (fun i => ([(r3 0), (r3 1), (r3 2), (r3 3)] : List Nat)[i]?)))))), ((r3 0), .inl (cI, 7, .inl (fun _ => 0))), ((r3 1), .inl (cI, 7, .inl (fun _ => 0))), ((r3 2), .inl (cI, 7, .inl (fun _ => 0))), ((r3 3), .inl (cI, 7, .inl (fun _ => 0))), (q4, .inl (cI, 4, .inl (fun _ => 0))), (q5, .inl (cI, 4, .inl (fun _ => 0))), (q6, .inl (cI, 8, .inl (fun _ => 0))), (q7, .inl (cI, 88, .inl (fun _ => 0))), (q8, .inl (cI, 2, .inl (fun _ => 0))), (q9, .inl (cJ, 1201, .inr (.inl (fun _ => 0)))), (q10, .inl (cJ, 1201, .inr (.inl (fun _ => 0))))] H := hP
  have hD : va_D A [(a0, .inr (0, [.ref q1, .ref q2, .ref q4, .ref q5, .ref q6, .ref q7, .ref q8, .ref q9, .ref q10, .int 0, .int 1, .int 0, .int 0, .int 3, .int 0, .int 0, .int (-1)])), (q1, .inl (cJ, 1201, .inr (.inl (fun _ => 0)))), (q2, .inl (cQ, 4, .inr (.inr (.inr (.inr (fun i => ([(r3 0), (r3 1), (r3 2), (r3 3)] : List Nat)[i]?)))))), ((r3 0), .inl (cI, 7, .inl (fun _ => 0))), ((r3 1), .inl (cI, 7, .inl (fun _ => 0))), ((r3 2), .inl (cI, 7, .inl (fun _ => 0))), ((r3 3), .inl (cI, 7, .inl (fun _ => 0))), (q4, .inl (cI, 4, .inl (fun _ => 0))), (q5, .inl (cI, 4, .inl (fun _ => 0))), (q6, .inl (cI, 8, .inl (fun _ => 0))), (q7, .inl (cI, 88, .inl (fun _ => 0))), (q8, .inl (cI, 2, .inl (fun _ => 0))), (q9, .inl (cJ, 1201, .inr (.inl (fun _ => 0)))), (q10, .inl (cJ, 1201, .inr (.inl (fun _ => 0))))] := hD
  have hP9 := hP.sub (ws' := [(a0, .inr (0, [.ref q1, .ref q2, .ref q4, .ref q5, .ref q6, .ref q7, .ref q8, .ref q9, .ref q10, .int 0, .int 1, .int 0, .int 0, .int 3, .int 0, .int 0, .int (-1)])), (q1, .inl (cJ, 1201, .inr (.inl (fun _ => 0)))), (q2, .inl (cQ, 4, .inr (.inr (.inr (.inr (fun i => ([(r3 0), (r3 1), (r3 2), (r3 3)] : List Nat)[i]?)))))), ((r3 0), .inl (cI, 7, .inl (fun _ => 0))), ((r3 1), .inl (cI, 7, .inl (fun _ => 0))), ((r3 2), .inl (cI, 7, .inl (fun _ => 0))), ((r3 3), .inl (cI, 7, .inl (fun _ => 0))), (q4, .inl (cI, 4, .inl (fun _ => 0))), (q5, .inl (cI, 4, .inl (fun _ => 0))), (q6, .inl (cI, 8, .inl (fun _ => 0))), (q7, .inl (cI, 88, .inl (fun _ => 0))), (q8, .inl (cI, 2, .inl (fun _ => 0))), (q9, .inl (cJ, 1201, .inr (.inl (fun _ => 0)))), (q10, .inl (cJ, 1201, .inr (.inl (fun _ => 0))))]) [0, 1, 2, 3, 4, 5, 6, 7, 8, 9, 10, 11, 12, 13] rfl
  have hD9 := hD.sub (ws' := [(a0, .inr (0, [.ref q1, .ref q2, .ref q4, .ref q5, .ref q6, .ref q7, .ref q8, .ref q9, .ref q10, .int 0, .int 1, .int 0, .int 0, .int 3, .int 0, .int 0, .int (-1)])), (q1, .inl (cJ, 1201, .inr (.inl (fun _ => 0)))), (q2, .inl (cQ, 4, .inr (.inr (.inr (.inr (fun i => ([(r3 0), (r3 1), (r3 2), (r3 3)] : List Nat)[i]?)))))), ((r3 0), .inl (cI, 7, .inl (fun _ => 0))), ((r3 1), .inl (cI, 7, .inl (fun _ => 0))), ((r3 2), .inl (cI, 7, .inl (fun _ => 0))), ((r3 3), .inl (cI, 7, .inl (fun _ => 0))), (q4, .inl (cI, 4, .inl (fun _ => 0))), (q5, .inl (cI, 4, .inl (fun _ => 0))), (q6, .inl (cI, 8, .inl (fun _ => 0))), (q7, .inl (cI, 88, .inl (fun _ => 0))), (q8, .inl (cI, 2, .inl (fun _ => 0))), (q9, .inl (cJ, 1201, .inr (.inl (fun _ => 0)))), (q10, .inl (cJ, 1201, .inr (.inl (fun _ => 0))))]) [0, 1, 2, 3, 4, 5, 6, 7, 8, 9, 10, 11, 12, 13] (by decide) rfl
  exact W.vret hx hb hr (fun t ht hW => ⟨⟨(fun k => ([q1, q2, (r3 0), (r3 1), (r3 2), (r3 3), q4, q5, q6, q7, q8, q9, q10] : List Nat).getD k 0), rfl, trivial, by rw [ht]; exact hP9, va_K.moved hW.alike hK, hD9⟩, hS.F ht⟩) hS.2.2 (dk_at dkX0_init_3 15 rfl)
def ws_k_X2_init_5 : List Cond := .code yX2_init cX2_init 1 none :: ([.methodLink RX2 3 objectInit, .instanceMethod objectInit, .code objectInit ⟨#[0xb1]⟩ 1 none, .arrayClass .int, .fieldLink RX2 9 "StackKeys$Hours" "keyOf" "[I"] ++ wsX20)
set_option maxHeartbeats 4000000 in
set_option maxRecDepth 100000 in
theorem k_X2_init_5 (l : Launch) (dC : Nat → ClassId) (dI : Nat → Nat → Nat) (cB cI cJ cZ cQ : ClassId) (sz : Nat) (a0 : Nat) : Met l yX2_init ws_k_X2_init_5 ({ frames := 1, cells := 1, slots := 6, locals := 12 }) (va_Pc [.ref a0] (fun U => U.heap.size = sz ∧ va_P (dC, dI) vwCl [(a0, .inr (2, [.null]))] U.heap ∧ va_K (dC, dI) vwCl (tyA cB cI cJ cZ cQ) U ∧ va_D (fun _ => True) [(a0, .inr (2, [.null]))])) (va_Qv (fun _ : (Nat → Nat) => True) (fun (u : (Nat → Nat)) t => va_P (dC, dI) vwCl [(a0, .inr (2, [.ref (u 0)])), ((u 0), .inl (cI, 6, .inl (fun _ => 0)))] t.heap ∧ va_K (dC, dI) vwCl (tyA cB cI cJ cZ cQ) t ∧ va_D (va_A [(a0, .inr (2, [.null]))] sz) [(a0, .inr (2, [.ref (u 0)])), ((u 0), .inl (cI, 6, .inl (fun _ => 0)))]) (va_A [(a0, .inr (2, [.null]))] sz)) 1 6 (va_A [(a0, .inr (2, [.null]))] sz) := by
  refine Met.ofW (cc := cX2_init) (maxL := 1) (ret := none) (by decide +kernel) rfl ?_
  intro p e s m args below meth c s₁ B hml hv
  obtain ⟨rfl, hsz, hP, hK, hD0⟩ := hv
  have hx := B.exec
  have hb := B.bytes
  have hr := B.returns
  have hts := atoms_spec (ws := ws_k_X2_init_5) B.pre
  have hown : s.vm.findClass RX2 = some m.cls := findClass_of_methodNamed B.named
  have hin : meth.name = "<init>" := (name_of_methodNamed B.named B.method).1
  have hiX2 : ∀ w ∈ u_ws RX2 TX2 1, w ∈ ws_k_X2_init_5 := fun w h => List.mem_cons_of_mem _ (List.mem_append_right _ h)
  subst hsz
  have hD := hD0.self (sz := s.heap.size)
  generalize hAe : va_A [(a0, .inr (2, [.null]))] s.heap.size = A at hD ⊢
  have hA : ∀ b : Nat, s.heap.size ≤ b → A b := fun b h => by rw [← hAe]; exact Or.inr h
  clear hD0 hAe
  have hS : va_S A s.heap s.heap [] := va_S.rf
  have hl := lv_entry ([.ref a0]) (n := 1) (Nat.le_of_ble_eq_true rfl)
  rw [lg_entry_eq]
  generalize (lg_sl ([.ref a0]) ++ List.replicate (1 - (lg_sl ([.ref a0])).length) Slot.unset).toArray = ls at hl ⊢
  have hl : lv_has ls 1 [(0, .ref a0)] := hl
  obtain ⟨H, hHe⟩ : ∃ H : Heap, H = s.heap := ⟨_, rfl⟩
  rw [← hHe] at hP
  have hS : va_S A s.heap H [] := by rw [hHe]; exact hS
  rw [← hHe]
  refine lv_aload_n hx hb (dk_at dkX2_init_0 0 rfl) rfl (lv_at hl 0 rfl) ?_
  refine W.objInit hx hb hown (hts _ (List.mem_of_getElem? (i := 1) rfl)) (hts _ (List.mem_of_getElem? (i := 2) rfl)) (hts _ (List.mem_of_getElem? (i := 3) rfl)) rfl (by rw [hml]; exact hl.1) rfl (dk_at dkX2_init_0 1 rfl) (Nat.le_of_ble_eq_true rfl) (Nat.le_of_ble_eq_true rfl) ?_
  refine W.eq (g2 := F0 m 4 ls []) rfl ?_
  refine lv_aload_n hx hb (dk_at dkX2_init_0 2 rfl) rfl (lv_at hl 0 rfl) ?_
  refine lv_bipush (v := 6) hx hb (dk_at dkX2_init_0 3 rfl) (by decide +kernel) ?_
  refine va_newaC (ty := .int) (a0 := (6, .inl (fun _ => 0))) (N' := 6) hx hb (hts _ (List.mem_of_getElem? (i := 4) rfl)) rfl hK hP hD hS hA 1 rfl (fun _ => rfl) (by decide +kernel) (by decide +kernel) (by decide +kernel) (Nat.le_of_ble_eq_true rfl) (Nat.le_of_ble_eq_true rfl) (dk_at dkX2_init_0 4 rfl) (fun q1 H hP hD hS => ?_)
  have hP : va_P (dC, dI) vwCl [(a0, .inr (2, [.null])), (q1, .inl (cI, 6, .inl (fun _ => 0)))] H := hP
  have hD : va_D A [(a0, .inr (2, [.null])), (q1, .inl (cI, 6, .inl (fun _ => 0)))] := hD
  refine W.widen (k := 1) (n := 6) (by omega) (by omega) ?_
  refine va_putF (D := (dC, dI)) (ci := 2) (v := .ref q1) (ty := .array .int) (C := RX2) (T := TX2) (N := 1) hx hb hts hiX2 tyX2 tyX2_ok nmX2 hown hK hP hD hS 0 rfl rfl 0 (by decide) (hts _ (List.mem_of_getElem? (i := 5) rfl)) (fun _ h9 => h9) rfl hin rfl (by decide +kernel) rfl rfl (Nat.le_of_ble_eq_true rfl) (dk_at dkX2_init_0 5 rfl) (fun H locs hP hD hS => ?_)
  have hP : va_P (dC, dI) vwCl [(a0, .inr (2, [.ref q1])), (q1, .inl (cI, 6, .inl (fun _ => 0)))] H := hP
  have hD : va_D A [(a0, .inr (2, [.ref q1])), (q1, .inl (cI, 6, .inl (fun _ => 0)))] := hD
  have hP9 := hP.sub (ws' := [(a0, .inr (2, [.ref q1])), (q1, .inl (cI, 6, .inl (fun _ => 0)))]) [0, 1] rfl
  have hD9 := hD.sub (ws' := [(a0, .inr (2, [.ref q1])), (q1, .inl (cI, 6, .inl (fun _ => 0)))]) [0, 1] (by decide) rfl
  exact W.vret hx hb hr (fun t ht hW => ⟨⟨(fun k => ([q1] : List Nat).getD k 0), rfl, trivial, by rw [ht]; exact hP9, va_K.moved hW.alike hK, hD9⟩, hS.F ht⟩) hS.2.2 (dk_at dkX2_init_0 6 rfl)
def ws_k_X1_init_6 : List Cond := .code yX1_init cX1_init 1 none :: ([.methodLink RX1 3 objectInit, .instanceMethod objectInit, .code objectInit ⟨#[0xb1]⟩ 1 none, .arrayClass .int, .fieldLink RX1 11 "StackKeys$Found" "triedDoor" "[I", .arrayClass .boolean, .fieldLink RX1 15 "StackKeys$Found" "triedOpened" "[Z", .fieldLink RX1 19 "StackKeys$Found" "first" "[I", .fieldLink RX1 22 "StackKeys$Found" "row" "[I", .fieldLink RX1 25 "StackKeys$Found" "trials" "I", .fieldLink RX1 29 "StackKeys$Found" "fitting" "I", .fieldLink RX1 32 "StackKeys$Found" "firstSize" "I", .fieldLink RX1 35 "StackKeys$Found" "opening" "I"] ++ wsX10)
set_option maxHeartbeats 4000000 in
set_option maxRecDepth 100000 in
theorem k_X1_init_6 (l : Launch) (dC : Nat → ClassId) (dI : Nat → Nat → Nat) (cB cI cJ cZ cQ : ClassId) (sz : Nat) (a0 : Nat) : Met l yX1_init ws_k_X1_init_6 ({ frames := 1, cells := 4, slots := 46, locals := 12 }) (va_Pc [.ref a0] (fun U => U.heap.size = sz ∧ va_P (dC, dI) vwCl [(a0, .inr (1, [.null, .null, .null, .null, .int 0, .int 0, .int 0, .int 0]))] U.heap ∧ va_K (dC, dI) vwCl (tyA cB cI cJ cZ cQ) U ∧ va_D (fun _ => True) [(a0, .inr (1, [.null, .null, .null, .null, .int 0, .int 0, .int 0, .int 0]))])) (va_Qv (fun _ : (Nat → Nat) => True) (fun (u : (Nat → Nat)) t => va_P (dC, dI) vwCl [(a0, .inr (1, [.ref (u 0), .ref (u 1), .ref (u 2), .ref (u 3), .int 0, .int 0, .int 0, .int 0])), ((u 0), .inl (cI, 20, .inl (fun _ => 0))), ((u 1), .inl (cZ, 20, .inl (fun _ => 0))), ((u 2), .inl (cI, 3, .inl (fun _ => 0))), ((u 3), .inl (cI, 3, .inl (fun _ => 0)))] t.heap ∧ va_K (dC, dI) vwCl (tyA cB cI cJ cZ cQ) t ∧ va_D (va_A [(a0, .inr (1, [.null, .null, .null, .null, .int 0, .int 0, .int 0, .int 0]))] sz) [(a0, .inr (1, [.ref (u 0), .ref (u 1), .ref (u 2), .ref (u 3), .int 0, .int 0, .int 0, .int 0])), ((u 0), .inl (cI, 20, .inl (fun _ => 0))), ((u 1), .inl (cZ, 20, .inl (fun _ => 0))), ((u 2), .inl (cI, 3, .inl (fun _ => 0))), ((u 3), .inl (cI, 3, .inl (fun _ => 0)))]) (va_A [(a0, .inr (1, [.null, .null, .null, .null, .int 0, .int 0, .int 0, .int 0]))] sz)) 4 46 (va_A [(a0, .inr (1, [.null, .null, .null, .null, .int 0, .int 0, .int 0, .int 0]))] sz) := by
  refine Met.ofW (cc := cX1_init) (maxL := 1) (ret := none) (by decide +kernel) rfl ?_
  intro p e s m args below meth c s₁ B hml hv
  obtain ⟨rfl, hsz, hP, hK, hD0⟩ := hv
  have hx := B.exec
  have hb := B.bytes
  have hr := B.returns
  have hts := atoms_spec (ws := ws_k_X1_init_6) B.pre
  have hown : s.vm.findClass RX1 = some m.cls := findClass_of_methodNamed B.named
  have hin : meth.name = "<init>" := (name_of_methodNamed B.named B.method).1
  have hiX1 : ∀ w ∈ u_ws RX1 TX1 8, w ∈ ws_k_X1_init_6 := fun w h => List.mem_cons_of_mem _ (List.mem_append_right _ h)
  subst hsz
  have hD := hD0.self (sz := s.heap.size)
  generalize hAe : va_A [(a0, .inr (1, [.null, .null, .null, .null, .int 0, .int 0, .int 0, .int 0]))] s.heap.size = A at hD ⊢
  have hA : ∀ b : Nat, s.heap.size ≤ b → A b := fun b h => by rw [← hAe]; exact Or.inr h
  clear hD0 hAe
  have hS : va_S A s.heap s.heap [] := va_S.rf
  have hl := lv_entry ([.ref a0]) (n := 1) (Nat.le_of_ble_eq_true rfl)
  rw [lg_entry_eq]
  generalize (lg_sl ([.ref a0]) ++ List.replicate (1 - (lg_sl ([.ref a0])).length) Slot.unset).toArray = ls at hl ⊢
  have hl : lv_has ls 1 [(0, .ref a0)] := hl
  obtain ⟨H, hHe⟩ : ∃ H : Heap, H = s.heap := ⟨_, rfl⟩
  rw [← hHe] at hP
  have hS : va_S A s.heap H [] := by rw [hHe]; exact hS
  rw [← hHe]
  refine lv_aload_n hx hb (dk_at dkX1_init_0 0 rfl) rfl (lv_at hl 0 rfl) ?_
  refine W.objInit hx hb hown (hts _ (List.mem_of_getElem? (i := 1) rfl)) (hts _ (List.mem_of_getElem? (i := 2) rfl)) (hts _ (List.mem_of_getElem? (i := 3) rfl)) rfl (by rw [hml]; exact hl.1) rfl (dk_at dkX1_init_0 1 rfl) (Nat.le_of_ble_eq_true rfl) (Nat.le_of_ble_eq_true rfl) ?_
  refine W.eq (g2 := F0 m 4 ls []) rfl ?_
  refine lv_aload_n hx hb (dk_at dkX1_init_0 2 rfl) rfl (lv_at hl 0 rfl) ?_
  refine lv_bipush (v := 20) hx hb (dk_at dkX1_init_0 3 rfl) (by decide +kernel) ?_
  refine va_newaC (ty := .int) (a0 := (20, .inl (fun _ => 0))) (N' := 20) hx hb (hts _ (List.mem_of_getElem? (i := 4) rfl)) rfl hK hP hD hS hA 1 rfl (fun _ => rfl) (by decide +kernel) (by decide +kernel) (by decide +kernel) (Nat.le_of_ble_eq_true rfl) (Nat.le_of_ble_eq_true rfl) (dk_at dkX1_init_0 4 rfl) (fun q1 H hP hD hS => ?_)
  have hP : va_P (dC, dI) vwCl [(a0, .inr (1, [.null, .null, .null, .null, .int 0, .int 0, .int 0, .int 0])), (q1, .inl (cI, 20, .inl (fun _ => 0)))] H := hP
  have hD : va_D A [(a0, .inr (1, [.null, .null, .null, .null, .int 0, .int 0, .int 0, .int 0])), (q1, .inl (cI, 20, .inl (fun _ => 0)))] := hD
  refine W.widen (k := 1) (n := 20) (by omega) (by omega) ?_
  refine va_putF (D := (dC, dI)) (ci := 1) (v := .ref q1) (ty := .array .int) (C := RX1) (T := TX1) (N := 8) hx hb hts hiX1 tyX1 tyX1_ok nmX1 hown hK hP hD hS 0 rfl rfl 0 (by decide) (hts _ (List.mem_of_getElem? (i := 5) rfl)) (fun _ h9 => h9) rfl hin rfl (by decide +kernel) rfl rfl (Nat.le_of_ble_eq_true rfl) (dk_at dkX1_init_0 5 rfl) (fun H locs hP hD hS => ?_)
  have hP : va_P (dC, dI) vwCl [(a0, .inr (1, [.ref q1, .null, .null, .null, .int 0, .int 0, .int 0, .int 0])), (q1, .inl (cI, 20, .inl (fun _ => 0)))] H := hP
  have hD : va_D A [(a0, .inr (1, [.ref q1, .null, .null, .null, .int 0, .int 0, .int 0, .int 0])), (q1, .inl (cI, 20, .inl (fun _ => 0)))] := hD
  refine lv_aload_n hx hb (dk_at dkX1_init_0 6 rfl) rfl (lv_at hl 0 rfl) ?_
  refine lv_bipush (v := 20) hx hb (dk_at dkX1_init_0 7 rfl) (by decide +kernel) ?_
  refine va_newaC (ty := .boolean) (a0 := (20, .inl (fun _ => 0))) (N' := 20) hx hb (hts _ (List.mem_of_getElem? (i := 6) rfl)) rfl hK hP hD hS hA 3 rfl (fun _ => rfl) (by decide +kernel) (by decide +kernel) (by decide +kernel) (Nat.le_of_ble_eq_true rfl) (Nat.le_of_ble_eq_true rfl) (dk_at dkX1_init_0 8 rfl) (fun q2 H hP hD hS => ?_)
  have hP : va_P (dC, dI) vwCl [(a0, .inr (1, [.ref q1, .null, .null, .null, .int 0, .int 0, .int 0, .int 0])), (q1, .inl (cI, 20, .inl (fun _ => 0))), (q2, .inl (cZ, 20, .inl (fun _ => 0)))] H := hP
  have hD : va_D A [(a0, .inr (1, [.ref q1, .null, .null, .null, .int 0, .int 0, .int 0, .int 0])), (q1, .inl (cI, 20, .inl (fun _ => 0))), (q2, .inl (cZ, 20, .inl (fun _ => 0)))] := hD
  refine W.widen (k := 2) (n := 40) (by omega) (by omega) ?_
  refine va_putF (D := (dC, dI)) (ci := 1) (v := .ref q2) (ty := .array .boolean) (C := RX1) (T := TX1) (N := 8) hx hb hts hiX1 tyX1 tyX1_ok nmX1 hown hK hP hD hS 0 rfl rfl 1 (by decide) (hts _ (List.mem_of_getElem? (i := 7) rfl)) (fun _ h9 => h9) rfl hin rfl (by decide +kernel) rfl rfl (Nat.le_of_ble_eq_true rfl) (dk_at dkX1_init_0 9 rfl) (fun H locs hP hD hS => ?_)
  have hP : va_P (dC, dI) vwCl [(a0, .inr (1, [.ref q1, .ref q2, .null, .null, .int 0, .int 0, .int 0, .int 0])), (q1, .inl (cI, 20, .inl (fun _ => 0))), (q2, .inl (cZ, 20, .inl (fun _ => 0)))] H := hP
  have hD : va_D A [(a0, .inr (1, [.ref q1, .ref q2, .null, .null, .int 0, .int 0, .int 0, .int 0])), (q1, .inl (cI, 20, .inl (fun _ => 0))), (q2, .inl (cZ, 20, .inl (fun _ => 0)))] := hD
  refine lv_aload_n hx hb (dk_at dkX1_init_0 10 rfl) rfl (lv_at hl 0 rfl) ?_
  refine lv_iconst (v := 3) hx hb (dk_at dkX1_init_0 11 rfl) (by decide +kernel) ?_
  refine va_newaC (ty := .int) (a0 := (3, .inl (fun _ => 0))) (N' := 3) hx hb (hts _ (List.mem_of_getElem? (i := 4) rfl)) rfl hK hP hD hS hA 1 rfl (fun _ => rfl) (by decide +kernel) (by decide +kernel) (by decide +kernel) (Nat.le_of_ble_eq_true rfl) (Nat.le_of_ble_eq_true rfl) (dk_at dkX1_init_0 12 rfl) (fun q3 H hP hD hS => ?_)
  have hP : va_P (dC, dI) vwCl [(a0, .inr (1, [.ref q1, .ref q2, .null, .null, .int 0, .int 0, .int 0, .int 0])), (q1, .inl (cI, 20, .inl (fun _ => 0))), (q2, .inl (cZ, 20, .inl (fun _ => 0))), (q3, .inl (cI, 3, .inl (fun _ => 0)))] H := hP
  have hD : va_D A [(a0, .inr (1, [.ref q1, .ref q2, .null, .null, .int 0, .int 0, .int 0, .int 0])), (q1, .inl (cI, 20, .inl (fun _ => 0))), (q2, .inl (cZ, 20, .inl (fun _ => 0))), (q3, .inl (cI, 3, .inl (fun _ => 0)))] := hD
  refine W.widen (k := 3) (n := 43) (by omega) (by omega) ?_
  refine va_putF (D := (dC, dI)) (ci := 1) (v := .ref q3) (ty := .array .int) (C := RX1) (T := TX1) (N := 8) hx hb hts hiX1 tyX1 tyX1_ok nmX1 hown hK hP hD hS 0 rfl rfl 2 (by decide) (hts _ (List.mem_of_getElem? (i := 8) rfl)) (fun _ h9 => h9) rfl hin rfl (by decide +kernel) rfl rfl (Nat.le_of_ble_eq_true rfl) (dk_at dkX1_init_0 13 rfl) (fun H locs hP hD hS => ?_)
  have hP : va_P (dC, dI) vwCl [(a0, .inr (1, [.ref q1, .ref q2, .ref q3, .null, .int 0, .int 0, .int 0, .int 0])), (q1, .inl (cI, 20, .inl (fun _ => 0))), (q2, .inl (cZ, 20, .inl (fun _ => 0))), (q3, .inl (cI, 3, .inl (fun _ => 0)))] H := hP
  have hD : va_D A [(a0, .inr (1, [.ref q1, .ref q2, .ref q3, .null, .int 0, .int 0, .int 0, .int 0])), (q1, .inl (cI, 20, .inl (fun _ => 0))), (q2, .inl (cZ, 20, .inl (fun _ => 0))), (q3, .inl (cI, 3, .inl (fun _ => 0)))] := hD
  refine lv_aload_n hx hb (dk_at dkX1_init_0 14 rfl) rfl (lv_at hl 0 rfl) ?_
  refine lv_iconst (v := 3) hx hb (dk_at dkX1_init_0 15 rfl) (by decide +kernel) ?_
  refine va_newaC (ty := .int) (a0 := (3, .inl (fun _ => 0))) (N' := 3) hx hb (hts _ (List.mem_of_getElem? (i := 4) rfl)) rfl hK hP hD hS hA 1 rfl (fun _ => rfl) (by decide +kernel) (by decide +kernel) (by decide +kernel) (Nat.le_of_ble_eq_true rfl) (Nat.le_of_ble_eq_true rfl) (dk_at dkX1_init_1 0 rfl) (fun q4 H hP hD hS => ?_)
  have hP : va_P (dC, dI) vwCl [(a0, .inr (1, [.ref q1, .ref q2, .ref q3, .null, .int 0, .int 0, .int 0, .int 0])), (q1, .inl (cI, 20, .inl (fun _ => 0))), (q2, .inl (cZ, 20, .inl (fun _ => 0))), (q3, .inl (cI, 3, .inl (fun _ => 0))), (q4, .inl (cI, 3, .inl (fun _ => 0)))] H := hP
  have hD : va_D A [(a0, .inr (1, [.ref q1, .ref q2, .ref q3, .null, .int 0, .int 0, .int 0, .int 0])), (q1, .inl (cI, 20, .inl (fun _ => 0))), (q2, .inl (cZ, 20, .inl (fun _ => 0))), (q3, .inl (cI, 3, .inl (fun _ => 0))), (q4, .inl (cI, 3, .inl (fun _ => 0)))] := hD
  refine W.widen (k := 4) (n := 46) (by omega) (by omega) ?_
  refine va_putF (D := (dC, dI)) (ci := 1) (v := .ref q4) (ty := .array .int) (C := RX1) (T := TX1) (N := 8) hx hb hts hiX1 tyX1 tyX1_ok nmX1 hown hK hP hD hS 0 rfl rfl 3 (by decide) (hts _ (List.mem_of_getElem? (i := 9) rfl)) (fun _ h9 => h9) rfl hin rfl (by decide +kernel) rfl rfl (Nat.le_of_ble_eq_true rfl) (dk_at dkX1_init_1 1 rfl) (fun H locs hP hD hS => ?_)
  have hP : va_P (dC, dI) vwCl [(a0, .inr (1, [.ref q1, .ref q2, .ref q3, .ref q4, .int 0, .int 0, .int 0, .int 0])), (q1, .inl (cI, 20, .inl (fun _ => 0))), (q2, .inl (cZ, 20, .inl (fun _ => 0))), (q3, .inl (cI, 3, .inl (fun _ => 0))), (q4, .inl (cI, 3, .inl (fun _ => 0)))] H := hP
  have hD : va_D A [(a0, .inr (1, [.ref q1, .ref q2, .ref q3, .ref q4, .int 0, .int 0, .int 0, .int 0])), (q1, .inl (cI, 20, .inl (fun _ => 0))), (q2, .inl (cZ, 20, .inl (fun _ => 0))), (q3, .inl (cI, 3, .inl (fun _ => 0))), (q4, .inl (cI, 3, .inl (fun _ => 0)))] := hD
  refine lv_aload_n hx hb (dk_at dkX1_init_1 2 rfl) rfl (lv_at hl 0 rfl) ?_
  refine lv_iconst (v := 0) hx hb (dk_at dkX1_init_1 3 rfl) (by decide +kernel) ?_
  refine va_put (D := (dC, dI)) (ci := 1) (v := .int 0) (ty := .int) (C := RX1) (T := TX1) (N := 8) hx hb hts hiX1 tyX1 tyX1_ok nmX1 hown hK hP hD hS 0 rfl rfl 4 (by decide) (hts _ (List.mem_of_getElem? (i := 10) rfl)) (fun _ h9 => h9) rfl (by decide +kernel) rfl rfl (Nat.le_of_ble_eq_true rfl) (dk_at dkX1_init_1 4 rfl) (fun H locs hP hD hS => ?_)
  have hP : va_P (dC, dI) vwCl [(a0, .inr (1, [.ref q1, .ref q2, .ref q3, .ref q4, .int 0, .int 0, .int 0, .int 0])), (q1, .inl (cI, 20, .inl (fun _ => 0))), (q2, .inl (cZ, 20, .inl (fun _ => 0))), (q3, .inl (cI, 3, .inl (fun _ => 0))), (q4, .inl (cI, 3, .inl (fun _ => 0)))] H := hP
  have hD : va_D A [(a0, .inr (1, [.ref q1, .ref q2, .ref q3, .ref q4, .int 0, .int 0, .int 0, .int 0])), (q1, .inl (cI, 20, .inl (fun _ => 0))), (q2, .inl (cZ, 20, .inl (fun _ => 0))), (q3, .inl (cI, 3, .inl (fun _ => 0))), (q4, .inl (cI, 3, .inl (fun _ => 0)))] := hD
  refine lv_aload_n hx hb (dk_at dkX1_init_1 5 rfl) rfl (lv_at hl 0 rfl) ?_
  refine lv_iconst (v := 0) hx hb (dk_at dkX1_init_1 6 rfl) (by decide +kernel) ?_
  refine va_put (D := (dC, dI)) (ci := 1) (v := .int 0) (ty := .int) (C := RX1) (T := TX1) (N := 8) hx hb hts hiX1 tyX1 tyX1_ok nmX1 hown hK hP hD hS 0 rfl rfl 5 (by decide) (hts _ (List.mem_of_getElem? (i := 11) rfl)) (fun _ h9 => h9) rfl (by decide +kernel) rfl rfl (Nat.le_of_ble_eq_true rfl) (dk_at dkX1_init_1 7 rfl) (fun H locs hP hD hS => ?_)
  have hP : va_P (dC, dI) vwCl [(a0, .inr (1, [.ref q1, .ref q2, .ref q3, .ref q4, .int 0, .int 0, .int 0, .int 0])), (q1, .inl (cI, 20, .inl (fun _ => 0))), (q2, .inl (cZ, 20, .inl (fun _ => 0))), (q3, .inl (cI, 3, .inl (fun _ => 0))), (q4, .inl (cI, 3, .inl (fun _ => 0)))] H := hP
  have hD : va_D A [(a0, .inr (1, [.ref q1, .ref q2, .ref q3, .ref q4, .int 0, .int 0, .int 0, .int 0])), (q1, .inl (cI, 20, .inl (fun _ => 0))), (q2, .inl (cZ, 20, .inl (fun _ => 0))), (q3, .inl (cI, 3, .inl (fun _ => 0))), (q4, .inl (cI, 3, .inl (fun _ => 0)))] := hD
  refine lv_aload_n hx hb (dk_at dkX1_init_1 8 rfl) rfl (lv_at hl 0 rfl) ?_
  refine lv_iconst (v := 0) hx hb (dk_at dkX1_init_1 9 rfl) (by decide +kernel) ?_
  refine va_put (D := (dC, dI)) (ci := 1) (v := .int 0) (ty := .int) (C := RX1) (T := TX1) (N := 8) hx hb hts hiX1 tyX1 tyX1_ok nmX1 hown hK hP hD hS 0 rfl rfl 6 (by decide) (hts _ (List.mem_of_getElem? (i := 12) rfl)) (fun _ h9 => h9) rfl (by decide +kernel) rfl rfl (Nat.le_of_ble_eq_true rfl) (dk_at dkX1_init_1 10 rfl) (fun H locs hP hD hS => ?_)
  have hP : va_P (dC, dI) vwCl [(a0, .inr (1, [.ref q1, .ref q2, .ref q3, .ref q4, .int 0, .int 0, .int 0, .int 0])), (q1, .inl (cI, 20, .inl (fun _ => 0))), (q2, .inl (cZ, 20, .inl (fun _ => 0))), (q3, .inl (cI, 3, .inl (fun _ => 0))), (q4, .inl (cI, 3, .inl (fun _ => 0)))] H := hP
  have hD : va_D A [(a0, .inr (1, [.ref q1, .ref q2, .ref q3, .ref q4, .int 0, .int 0, .int 0, .int 0])), (q1, .inl (cI, 20, .inl (fun _ => 0))), (q2, .inl (cZ, 20, .inl (fun _ => 0))), (q3, .inl (cI, 3, .inl (fun _ => 0))), (q4, .inl (cI, 3, .inl (fun _ => 0)))] := hD
  refine lv_aload_n hx hb (dk_at dkX1_init_1 11 rfl) rfl (lv_at hl 0 rfl) ?_
  refine lv_iconst (v := 0) hx hb (dk_at dkX1_init_1 12 rfl) (by decide +kernel) ?_
  refine va_put (D := (dC, dI)) (ci := 1) (v := .int 0) (ty := .int) (C := RX1) (T := TX1) (N := 8) hx hb hts hiX1 tyX1 tyX1_ok nmX1 hown hK hP hD hS 0 rfl rfl 7 (by decide) (hts _ (List.mem_of_getElem? (i := 13) rfl)) (fun _ h9 => h9) rfl (by decide +kernel) rfl rfl (Nat.le_of_ble_eq_true rfl) (dk_at dkX1_init_1 13 rfl) (fun H locs hP hD hS => ?_)
  have hP : va_P (dC, dI) vwCl [(a0, .inr (1, [.ref q1, .ref q2, .ref q3, .ref q4, .int 0, .int 0, .int 0, .int 0])), (q1, .inl (cI, 20, .inl (fun _ => 0))), (q2, .inl (cZ, 20, .inl (fun _ => 0))), (q3, .inl (cI, 3, .inl (fun _ => 0))), (q4, .inl (cI, 3, .inl (fun _ => 0)))] H := hP
  have hD : va_D A [(a0, .inr (1, [.ref q1, .ref q2, .ref q3, .ref q4, .int 0, .int 0, .int 0, .int 0])), (q1, .inl (cI, 20, .inl (fun _ => 0))), (q2, .inl (cZ, 20, .inl (fun _ => 0))), (q3, .inl (cI, 3, .inl (fun _ => 0))), (q4, .inl (cI, 3, .inl (fun _ => 0)))] := hD
  have hP9 := hP.sub (ws' := [(a0, .inr (1, [.ref q1, .ref q2, .ref q3, .ref q4, .int 0, .int 0, .int 0, .int 0])), (q1, .inl (cI, 20, .inl (fun _ => 0))), (q2, .inl (cZ, 20, .inl (fun _ => 0))), (q3, .inl (cI, 3, .inl (fun _ => 0))), (q4, .inl (cI, 3, .inl (fun _ => 0)))]) [0, 1, 2, 3, 4] rfl
  have hD9 := hD.sub (ws' := [(a0, .inr (1, [.ref q1, .ref q2, .ref q3, .ref q4, .int 0, .int 0, .int 0, .int 0])), (q1, .inl (cI, 20, .inl (fun _ => 0))), (q2, .inl (cZ, 20, .inl (fun _ => 0))), (q3, .inl (cI, 3, .inl (fun _ => 0))), (q4, .inl (cI, 3, .inl (fun _ => 0)))]) [0, 1, 2, 3, 4] (by decide) rfl
  exact W.vret hx hb hr (fun t ht hW => ⟨⟨(fun k => ([q1, q2, q3, q4] : List Nat).getD k 0), rfl, trivial, by rw [ht]; exact hP9, va_K.moved hW.alike hK, hD9⟩, hS.F ht⟩) hS.2.2 (dk_at dkX1_init_1 14 rfl)
def ws_k_X10_init_7 : List Cond := .code yX10_init cX10_init 1 none :: ([.methodLink RX10 3 objectInit, .instanceMethod objectInit, .code objectInit ⟨#[0xb1]⟩ 1 none, .arrayClass .int, .fieldLink RX10 9 "StackKeys$Watch" "way" "[I", .fieldLink RX10 15 "StackKeys$Watch" "least" "[I"] ++ wsX100)
set_option maxHeartbeats 4000000 in
set_option maxRecDepth 100000 in
theorem k_X10_init_7 (l : Launch) (dC : Nat → ClassId) (dI : Nat → Nat → Nat) (cB cI cJ cZ cQ : ClassId) (sz : Nat) (a0 : Nat) : Met l yX10_init ws_k_X10_init_7 ({ frames := 1, cells := 2, slots := 2112, locals := 12 }) (va_Pc [.ref a0] (fun U => U.heap.size = sz ∧ va_P (dC, dI) vwCl [(a0, .inr (10, [.null, .null]))] U.heap ∧ va_K (dC, dI) vwCl (tyA cB cI cJ cZ cQ) U ∧ va_D (fun _ => True) [(a0, .inr (10, [.null, .null]))])) (va_Qv (fun _ : (Nat → Nat) => True) (fun (u : (Nat → Nat)) t => va_P (dC, dI) vwCl [(a0, .inr (10, [.ref (u 0), .ref (u 1)])), ((u 0), .inl (cI, 64, .inl (fun _ => 0))), ((u 1), .inl (cI, 2048, .inl (fun _ => 0)))] t.heap ∧ va_K (dC, dI) vwCl (tyA cB cI cJ cZ cQ) t ∧ va_D (va_A [(a0, .inr (10, [.null, .null]))] sz) [(a0, .inr (10, [.ref (u 0), .ref (u 1)])), ((u 0), .inl (cI, 64, .inl (fun _ => 0))), ((u 1), .inl (cI, 2048, .inl (fun _ => 0)))]) (va_A [(a0, .inr (10, [.null, .null]))] sz)) 2 2112 (va_A [(a0, .inr (10, [.null, .null]))] sz) := by
  refine Met.ofW (cc := cX10_init) (maxL := 1) (ret := none) (by decide +kernel) rfl ?_
  intro p e s m args below meth c s₁ B hml hv
  obtain ⟨rfl, hsz, hP, hK, hD0⟩ := hv
  have hx := B.exec
  have hb := B.bytes
  have hr := B.returns
  have hts := atoms_spec (ws := ws_k_X10_init_7) B.pre
  have hown : s.vm.findClass RX10 = some m.cls := findClass_of_methodNamed B.named
  have hin : meth.name = "<init>" := (name_of_methodNamed B.named B.method).1
  have hiX10 : ∀ w ∈ u_ws RX10 TX10 2, w ∈ ws_k_X10_init_7 := fun w h => List.mem_cons_of_mem _ (List.mem_append_right _ h)
  subst hsz
  have hD := hD0.self (sz := s.heap.size)
  generalize hAe : va_A [(a0, .inr (10, [.null, .null]))] s.heap.size = A at hD ⊢
  have hA : ∀ b : Nat, s.heap.size ≤ b → A b := fun b h => by rw [← hAe]; exact Or.inr h
  clear hD0 hAe
  have hS : va_S A s.heap s.heap [] := va_S.rf
  have hl := lv_entry ([.ref a0]) (n := 1) (Nat.le_of_ble_eq_true rfl)
  rw [lg_entry_eq]
  generalize (lg_sl ([.ref a0]) ++ List.replicate (1 - (lg_sl ([.ref a0])).length) Slot.unset).toArray = ls at hl ⊢
  have hl : lv_has ls 1 [(0, .ref a0)] := hl
  obtain ⟨H, hHe⟩ : ∃ H : Heap, H = s.heap := ⟨_, rfl⟩
  rw [← hHe] at hP
  have hS : va_S A s.heap H [] := by rw [hHe]; exact hS
  rw [← hHe]
  refine lv_aload_n hx hb (dk_at dkX10_init_0 0 rfl) rfl (lv_at hl 0 rfl) ?_
  refine W.objInit hx hb hown (hts _ (List.mem_of_getElem? (i := 1) rfl)) (hts _ (List.mem_of_getElem? (i := 2) rfl)) (hts _ (List.mem_of_getElem? (i := 3) rfl)) rfl (by rw [hml]; exact hl.1) rfl (dk_at dkX10_init_0 1 rfl) (Nat.le_of_ble_eq_true rfl) (Nat.le_of_ble_eq_true rfl) ?_
  refine W.eq (g2 := F0 m 4 ls []) rfl ?_
  refine lv_aload_n hx hb (dk_at dkX10_init_0 2 rfl) rfl (lv_at hl 0 rfl) ?_
  refine lv_bipush (v := 64) hx hb (dk_at dkX10_init_0 3 rfl) (by decide +kernel) ?_
  refine va_newaC (ty := .int) (a0 := (64, .inl (fun _ => 0))) (N' := 64) hx hb (hts _ (List.mem_of_getElem? (i := 4) rfl)) rfl hK hP hD hS hA 1 rfl (fun _ => rfl) (by decide +kernel) (by decide +kernel) (by decide +kernel) (Nat.le_of_ble_eq_true rfl) (Nat.le_of_ble_eq_true rfl) (dk_at dkX10_init_0 4 rfl) (fun q1 H hP hD hS => ?_)
  have hP : va_P (dC, dI) vwCl [(a0, .inr (10, [.null, .null])), (q1, .inl (cI, 64, .inl (fun _ => 0)))] H := hP
  have hD : va_D A [(a0, .inr (10, [.null, .null])), (q1, .inl (cI, 64, .inl (fun _ => 0)))] := hD
  refine W.widen (k := 1) (n := 64) (by omega) (by omega) ?_
  refine va_putF (D := (dC, dI)) (ci := 10) (v := .ref q1) (ty := .array .int) (C := RX10) (T := TX10) (N := 2) hx hb hts hiX10 tyX10 tyX10_ok nmX10 hown hK hP hD hS 0 rfl rfl 0 (by decide) (hts _ (List.mem_of_getElem? (i := 5) rfl)) (fun _ h9 => h9) rfl hin rfl (by decide +kernel) rfl rfl (Nat.le_of_ble_eq_true rfl) (dk_at dkX10_init_0 5 rfl) (fun H locs hP hD hS => ?_)
  have hP : va_P (dC, dI) vwCl [(a0, .inr (10, [.ref q1, .null])), (q1, .inl (cI, 64, .inl (fun _ => 0)))] H := hP
  have hD : va_D A [(a0, .inr (10, [.ref q1, .null])), (q1, .inl (cI, 64, .inl (fun _ => 0)))] := hD
  refine lv_aload_n hx hb (dk_at dkX10_init_0 6 rfl) rfl (lv_at hl 0 rfl) ?_
  refine lv_sipush (v := 2048) hx hb (dk_at dkX10_init_0 7 rfl) (by decide +kernel) ?_
  refine va_newaC (ty := .int) (a0 := (2048, .inl (fun _ => 0))) (N' := 2048) hx hb (hts _ (List.mem_of_getElem? (i := 4) rfl)) rfl hK hP hD hS hA 1 rfl (fun _ => rfl) (by decide +kernel) (by decide +kernel) (by decide +kernel) (Nat.le_of_ble_eq_true rfl) (Nat.le_of_ble_eq_true rfl) (dk_at dkX10_init_0 8 rfl) (fun q2 H hP hD hS => ?_)
  have hP : va_P (dC, dI) vwCl [(a0, .inr (10, [.ref q1, .null])), (q1, .inl (cI, 64, .inl (fun _ => 0))), (q2, .inl (cI, 2048, .inl (fun _ => 0)))] H := hP
  have hD : va_D A [(a0, .inr (10, [.ref q1, .null])), (q1, .inl (cI, 64, .inl (fun _ => 0))), (q2, .inl (cI, 2048, .inl (fun _ => 0)))] := hD
  refine W.widen (k := 2) (n := 2112) (by omega) (by omega) ?_
  refine va_putF (D := (dC, dI)) (ci := 10) (v := .ref q2) (ty := .array .int) (C := RX10) (T := TX10) (N := 2) hx hb hts hiX10 tyX10 tyX10_ok nmX10 hown hK hP hD hS 0 rfl rfl 1 (by decide) (hts _ (List.mem_of_getElem? (i := 6) rfl)) (fun _ h9 => h9) rfl hin rfl (by decide +kernel) rfl rfl (Nat.le_of_ble_eq_true rfl) (dk_at dkX10_init_0 9 rfl) (fun H locs hP hD hS => ?_)
  have hP : va_P (dC, dI) vwCl [(a0, .inr (10, [.ref q1, .ref q2])), (q1, .inl (cI, 64, .inl (fun _ => 0))), (q2, .inl (cI, 2048, .inl (fun _ => 0)))] H := hP
  have hD : va_D A [(a0, .inr (10, [.ref q1, .ref q2])), (q1, .inl (cI, 64, .inl (fun _ => 0))), (q2, .inl (cI, 2048, .inl (fun _ => 0)))] := hD
  have hP9 := hP.sub (ws' := [(a0, .inr (10, [.ref q1, .ref q2])), (q1, .inl (cI, 64, .inl (fun _ => 0))), (q2, .inl (cI, 2048, .inl (fun _ => 0)))]) [0, 1, 2] rfl
  have hD9 := hD.sub (ws' := [(a0, .inr (10, [.ref q1, .ref q2])), (q1, .inl (cI, 64, .inl (fun _ => 0))), (q2, .inl (cI, 2048, .inl (fun _ => 0)))]) [0, 1, 2] (by decide) rfl
  exact W.vret hx hb hr (fun t ht hW => ⟨⟨(fun k => ([q1, q2] : List Nat).getD k 0), rfl, trivial, by rw [ht]; exact hP9, va_K.moved hW.alike hK, hD9⟩, hS.F ht⟩) hS.2.2 (dk_at dkX10_init_0 10 rfl)
def ws_k_X6_init_8 : List Cond := .code yX6_init cX6_init 1 none :: ([.methodLink RX6 3 objectInit, .instanceMethod objectInit, .code objectInit ⟨#[0xb1]⟩ 1 none, .arrayClass .int, .fieldLink RX6 9 "StackKeys$Standing" "spot" "[I", .fieldLink RX6 15 "StackKeys$Standing" "where" "[I", .fieldLink RX6 18 "StackKeys$Standing" "rowSize" "[I", .classLink RX6 21 "[[I", .fieldLink RX6 23 "StackKeys$Standing" "rows" "[[I"] ++ wsX60)
set_option maxHeartbeats 4000000 in
set_option maxRecDepth 100000 in
theorem k_X6_init_8 (l : Launch) (dC : Nat → ClassId) (dI : Nat → Nat → Nat) (cB cI cJ cZ cQ : ClassId) (sz : Nat) (a0 : Nat) : Met l yX6_init ws_k_X6_init_8 ({ frames := 1, cells := 8, slots := 39, locals := 12 }) (va_Pc [.ref a0] (fun U => U.heap.size = sz ∧ va_P (dC, dI) vwCl [(a0, .inr (6, [.null, .null, .null, .null]))] U.heap ∧ va_K (dC, dI) vwCl (tyA cB cI cJ cZ cQ) U ∧ va_D (fun _ => True) [(a0, .inr (6, [.null, .null, .null, .null]))] ∧ exN U)) (va_Qv (fun _ : (Nat → Nat) => True) (fun (u : (Nat → Nat)) t => va_P (dC, dI) vwCl [(a0, .inr (6, [.ref (u 0), .ref (u 1), .ref (u 2), .ref (u 3)])), ((u 0), .inl (cI, 3, .inl (fun _ => 0))), ((u 1), .inl (cI, 4, .inl (fun _ => 0))), ((u 2), .inl (cI, 4, .inl (fun _ => 0))), ((u 3), .inl (cQ, 4, .inr (.inr (.inr (.inr (fun i => ([(u 4), (u 5), (u 6), (u 7)] : List Nat)[i]?)))))), ((u 4), .inl (cI, 6, .inl (fun _ => 0))), ((u 5), .inl (cI, 6, .inl (fun _ => 0))), ((u 6), .inl (cI, 6, .inl (fun _ => 0))), ((u 7), .inl (cI, 6, .inl (fun _ => 0)))] t.heap ∧ va_K (dC, dI) vwCl (tyA cB cI cJ cZ cQ) t ∧ va_D (va_A [(a0, .inr (6, [.null, .null, .null, .null]))] sz) [(a0, .inr (6, [.ref (u 0), .ref (u 1), .ref (u 2), .ref (u 3)])), ((u 0), .inl (cI, 3, .inl (fun _ => 0))), ((u 1), .inl (cI, 4, .inl (fun _ => 0))), ((u 2), .inl (cI, 4, .inl (fun _ => 0))), ((u 3), .inl (cQ, 4, .inr (.inr (.inr (.inr (fun i => ([(u 4), (u 5), (u 6), (u 7)] : List Nat)[i]?)))))), ((u 4), .inl (cI, 6, .inl (fun _ => 0))), ((u 5), .inl (cI, 6, .inl (fun _ => 0))), ((u 6), .inl (cI, 6, .inl (fun _ => 0))), ((u 7), .inl (cI, 6, .inl (fun _ => 0)))]) (va_A [(a0, .inr (6, [.null, .null, .null, .null]))] sz)) 8 39 (va_A [(a0, .inr (6, [.null, .null, .null, .null]))] sz) := by
  refine Met.ofW (cc := cX6_init) (maxL := 1) (ret := none) (by decide +kernel) rfl ?_
  intro p e s m args below meth c s₁ B hml hv
  obtain ⟨rfl, hsz, hP, hK, hD0, hE⟩ := hv
  have hx := B.exec
  have hb := B.bytes
  have hr := B.returns
  have hts := atoms_spec (ws := ws_k_X6_init_8) B.pre
  have hown : s.vm.findClass RX6 = some m.cls := findClass_of_methodNamed B.named
  have hin : meth.name = "<init>" := (name_of_methodNamed B.named B.method).1
  have hiX6 : ∀ w ∈ u_ws RX6 TX6 4, w ∈ ws_k_X6_init_8 := fun w h => List.mem_cons_of_mem _ (List.mem_append_right _ h)
  subst hsz
  have hD := hD0.self (sz := s.heap.size)
  generalize hAe : va_A [(a0, .inr (6, [.null, .null, .null, .null]))] s.heap.size = A at hD ⊢
  have hA : ∀ b : Nat, s.heap.size ≤ b → A b := fun b h => by rw [← hAe]; exact Or.inr h
  clear hD0 hAe
  have hS : va_S A s.heap s.heap [] := va_S.rf
  have hl := lv_entry ([.ref a0]) (n := 1) (Nat.le_of_ble_eq_true rfl)
  rw [lg_entry_eq]
  generalize (lg_sl ([.ref a0]) ++ List.replicate (1 - (lg_sl ([.ref a0])).length) Slot.unset).toArray = ls at hl ⊢
  have hl : lv_has ls 1 [(0, .ref a0)] := hl
  obtain ⟨H, hHe⟩ : ∃ H : Heap, H = s.heap := ⟨_, rfl⟩
  rw [← hHe] at hP
  have hS : va_S A s.heap H [] := by rw [hHe]; exact hS
  rw [← hHe]
  refine lv_aload_n hx hb (dk_at dkX6_init_0 0 rfl) rfl (lv_at hl 0 rfl) ?_
  refine W.objInit hx hb hown (hts _ (List.mem_of_getElem? (i := 1) rfl)) (hts _ (List.mem_of_getElem? (i := 2) rfl)) (hts _ (List.mem_of_getElem? (i := 3) rfl)) rfl (by rw [hml]; exact hl.1) rfl (dk_at dkX6_init_0 1 rfl) (Nat.le_of_ble_eq_true rfl) (Nat.le_of_ble_eq_true rfl) ?_
  refine W.eq (g2 := F0 m 4 ls []) rfl ?_
  refine lv_aload_n hx hb (dk_at dkX6_init_0 2 rfl) rfl (lv_at hl 0 rfl) ?_
  refine lv_iconst (v := 3) hx hb (dk_at dkX6_init_0 3 rfl) (by decide +kernel) ?_
  refine va_newaC (ty := .int) (a0 := (3, .inl (fun _ => 0))) (N' := 3) hx hb (hts _ (List.mem_of_getElem? (i := 4) rfl)) rfl hK hP hD hS hA 1 rfl (fun _ => rfl) (by decide +kernel) (by decide +kernel) (by decide +kernel) (Nat.le_of_ble_eq_true rfl) (Nat.le_of_ble_eq_true rfl) (dk_at dkX6_init_0 4 rfl) (fun q1 H hP hD hS => ?_)
  have hP : va_P (dC, dI) vwCl [(a0, .inr (6, [.null, .null, .null, .null])), (q1, .inl (cI, 3, .inl (fun _ => 0)))] H := hP
  have hD : va_D A [(a0, .inr (6, [.null, .null, .null, .null])), (q1, .inl (cI, 3, .inl (fun _ => 0)))] := hD
  refine W.widen (k := 1) (n := 3) (by omega) (by omega) ?_
  refine va_putF (D := (dC, dI)) (ci := 6) (v := .ref q1) (ty := .array .int) (C := RX6) (T := TX6) (N := 4) hx hb hts hiX6 tyX6 tyX6_ok nmX6 hown hK hP hD hS 0 rfl rfl 0 (by decide) (hts _ (List.mem_of_getElem? (i := 5) rfl)) (fun _ h9 => h9) rfl hin rfl (by decide +kernel) rfl rfl (Nat.le_of_ble_eq_true rfl) (dk_at dkX6_init_0 5 rfl) (fun H locs hP hD hS => ?_)
  have hP : va_P (dC, dI) vwCl [(a0, .inr (6, [.ref q1, .null, .null, .null])), (q1, .inl (cI, 3, .inl (fun _ => 0)))] H := hP
  have hD : va_D A [(a0, .inr (6, [.ref q1, .null, .null, .null])), (q1, .inl (cI, 3, .inl (fun _ => 0)))] := hD
  refine lv_aload_n hx hb (dk_at dkX6_init_0 6 rfl) rfl (lv_at hl 0 rfl) ?_
  refine lv_iconst (v := 4) hx hb (dk_at dkX6_init_0 7 rfl) (by decide +kernel) ?_
  refine va_newaC (ty := .int) (a0 := (4, .inl (fun _ => 0))) (N' := 4) hx hb (hts _ (List.mem_of_getElem? (i := 4) rfl)) rfl hK hP hD hS hA 1 rfl (fun _ => rfl) (by decide +kernel) (by decide +kernel) (by decide +kernel) (Nat.le_of_ble_eq_true rfl) (Nat.le_of_ble_eq_true rfl) (dk_at dkX6_init_0 8 rfl) (fun q2 H hP hD hS => ?_)
  have hP : va_P (dC, dI) vwCl [(a0, .inr (6, [.ref q1, .null, .null, .null])), (q1, .inl (cI, 3, .inl (fun _ => 0))), (q2, .inl (cI, 4, .inl (fun _ => 0)))] H := hP
  have hD : va_D A [(a0, .inr (6, [.ref q1, .null, .null, .null])), (q1, .inl (cI, 3, .inl (fun _ => 0))), (q2, .inl (cI, 4, .inl (fun _ => 0)))] := hD
  refine W.widen (k := 2) (n := 7) (by omega) (by omega) ?_
  refine va_putF (D := (dC, dI)) (ci := 6) (v := .ref q2) (ty := .array .int) (C := RX6) (T := TX6) (N := 4) hx hb hts hiX6 tyX6 tyX6_ok nmX6 hown hK hP hD hS 0 rfl rfl 1 (by decide) (hts _ (List.mem_of_getElem? (i := 6) rfl)) (fun _ h9 => h9) rfl hin rfl (by decide +kernel) rfl rfl (Nat.le_of_ble_eq_true rfl) (dk_at dkX6_init_0 9 rfl) (fun H locs hP hD hS => ?_)
  have hP : va_P (dC, dI) vwCl [(a0, .inr (6, [.ref q1, .ref q2, .null, .null])), (q1, .inl (cI, 3, .inl (fun _ => 0))), (q2, .inl (cI, 4, .inl (fun _ => 0)))] H := hP
  have hD : va_D A [(a0, .inr (6, [.ref q1, .ref q2, .null, .null])), (q1, .inl (cI, 3, .inl (fun _ => 0))), (q2, .inl (cI, 4, .inl (fun _ => 0)))] := hD
  refine lv_aload_n hx hb (dk_at dkX6_init_0 10 rfl) rfl (lv_at hl 0 rfl) ?_
  refine lv_iconst (v := 4) hx hb (dk_at dkX6_init_0 11 rfl) (by decide +kernel) ?_
  refine va_newaC (ty := .int) (a0 := (4, .inl (fun _ => 0))) (N' := 4) hx hb (hts _ (List.mem_of_getElem? (i := 4) rfl)) rfl hK hP hD hS hA 1 rfl (fun _ => rfl) (by decide +kernel) (by decide +kernel) (by decide +kernel) (Nat.le_of_ble_eq_true rfl) (Nat.le_of_ble_eq_true rfl) (dk_at dkX6_init_0 12 rfl) (fun q3 H hP hD hS => ?_)
  have hP : va_P (dC, dI) vwCl [(a0, .inr (6, [.ref q1, .ref q2, .null, .null])), (q1, .inl (cI, 3, .inl (fun _ => 0))), (q2, .inl (cI, 4, .inl (fun _ => 0))), (q3, .inl (cI, 4, .inl (fun _ => 0)))] H := hP
  have hD : va_D A [(a0, .inr (6, [.ref q1, .ref q2, .null, .null])), (q1, .inl (cI, 3, .inl (fun _ => 0))), (q2, .inl (cI, 4, .inl (fun _ => 0))), (q3, .inl (cI, 4, .inl (fun _ => 0)))] := hD
  refine W.widen (k := 3) (n := 11) (by omega) (by omega) ?_
  refine va_putF (D := (dC, dI)) (ci := 6) (v := .ref q3) (ty := .array .int) (C := RX6) (T := TX6) (N := 4) hx hb hts hiX6 tyX6 tyX6_ok nmX6 hown hK hP hD hS 0 rfl rfl 2 (by decide) (hts _ (List.mem_of_getElem? (i := 7) rfl)) (fun _ h9 => h9) rfl hin rfl (by decide +kernel) rfl rfl (Nat.le_of_ble_eq_true rfl) (dk_at dkX6_init_0 13 rfl) (fun H locs hP hD hS => ?_)
  have hP : va_P (dC, dI) vwCl [(a0, .inr (6, [.ref q1, .ref q2, .ref q3, .null])), (q1, .inl (cI, 3, .inl (fun _ => 0))), (q2, .inl (cI, 4, .inl (fun _ => 0))), (q3, .inl (cI, 4, .inl (fun _ => 0)))] H := hP
  have hD : va_D A [(a0, .inr (6, [.ref q1, .ref q2, .ref q3, .null])), (q1, .inl (cI, 3, .inl (fun _ => 0))), (q2, .inl (cI, 4, .inl (fun _ => 0))), (q3, .inl (cI, 4, .inl (fun _ => 0)))] := hD
  refine lv_aload_n hx hb (dk_at dkX6_init_0 14 rfl) rfl (lv_at hl 0 rfl) ?_
  refine lv_iconst (v := 4) hx hb (dk_at dkX6_init_0 15 rfl) (by decide +kernel) ?_
  refine lv_bipush (v := 6) hx hb (dk_at dkX6_init_1 0 rfl) (by decide +kernel) ?_
  refine va_mnaC (N' := 4) (K' := 6) hx hb hown (hts _ (List.mem_of_getElem? (i := 8) rfl)) hE.2.2.2.2.2.2.2.2.2.2.2 (hts _ (List.mem_of_getElem? (i := 4) rfl)) hK hP hD hS hA 4 1 rfl rfl (by decide +kernel) (by decide +kernel) (by decide +kernel) (by decide +kernel) (by decide +kernel) (by decide +kernel) (by decide +kernel) (Nat.le_of_ble_eq_true rfl) (Nat.le_of_ble_eq_true rfl) (dk_at dkX6_init_1 1 rfl) (fun q4 r5 H hP hD hS => ?_)
  have hP : va_P (dC, dI) vwCl [(a0, .inr (6, [.ref q1, .ref q2, .ref q3, .null])), (q1, .inl (cI, 3, .inl (fun _ => 0))), (q2, .inl (cI, 4, .inl (fun _ => 0))), (q3, .inl (cI, 4, .inl (fun _ => 0))), (q4, .inl (cQ, 4, .inr (.inr (.inr (.inr (fun i => ([(r5 0), (r5 1), (r5 2), (r5 3)] : List Nat)[i]?)))))), ((r5 0), .inl (cI, 6, .inl (fun _ => 0))), ((r5 1), .inl (cI, 6, .inl (fun _ => 0))), ((r5 2), .inl (cI, 6, .inl (fun _ => 0))), ((r5 3), .inl (cI, 6, .inl (fun _ => 0)))] H := hP
  have hD : va_D A [(a0, .inr (6, [.ref q1, .ref q2, .ref q3, .null])), (q1, .inl (cI, 3, .inl (fun _ => 0))), (q2, .inl (cI, 4, .inl (fun _ => 0))), (q3, .inl (cI, 4, .inl (fun _ => 0))), (q4, .inl (cQ, 4, .inr (.inr (.inr (.inr (fun i => ([(r5 0), (r5 1), (r5 2), (r5 3)] : List Nat)[i]?)))))), ((r5 0), .inl (cI, 6, .inl (fun _ => 0))), ((r5 1), .inl (cI, 6, .inl (fun _ => 0))), ((r5 2), .inl (cI, 6, .inl (fun _ => 0))), ((r5 3), .inl (cI, 6, .inl (fun _ => 0)))] := hD
  refine W.widen (k := 8) (n := 39) (by omega) (by omega) ?_
  refine va_putF (D := (dC, dI)) (ci := 6) (v := .ref q4) (ty := .array (.array .int)) (C := RX6) (T := TX6) (N := 4) hx hb hts hiX6 tyX6 tyX6_ok nmX6 hown hK hP hD hS 0 rfl rfl 3 (by decide) (hts _ (List.mem_of_getElem? (i := 9) rfl)) (fun _ h9 => h9) rfl hin rfl (by decide +kernel) rfl rfl (Nat.le_of_ble_eq_true rfl) (dk_at dkX6_init_1 2 rfl) (fun H locs hP hD hS => ?_)
  have hP : va_P (dC, dI) vwCl [(a0, .inr (6, [.ref q1, .ref q2, .ref q3, .ref q4])), (q1, .inl (cI, 3, .inl (fun _ => 0))), (q2, .inl (cI, 4, .inl (fun _ => 0))), (q3, .inl (cI, 4, .inl (fun _ => 0))), (q4, .inl (cQ, 4, .inr (.inr (.inr (.inr (fun i => ([(r5 0), (r5 1), (r5 2), (r5 3)] : List Nat)[i]?)))))), ((r5 0), .inl (cI, 6, .inl (fun _ => 0))), ((r5 1), .inl (cI, 6, .inl (fun _ => 0))), ((r5 2), .inl (cI, 6, .inl (fun _ => 0))), ((r5 3), .inl (cI, 6, .inl (fun _ => 0)))] H := hP
  have hD : va_D A [(a0, .inr (6, [.ref q1, .ref q2, .ref q3, .ref q4])), (q1, .inl (cI, 3, .inl (fun _ => 0))), (q2, .inl (cI, 4, .inl (fun _ => 0))), (q3, .inl (cI, 4, .inl (fun _ => 0))), (q4, .inl (cQ, 4, .inr (.inr (.inr (.inr (fun i => ([(r5 0), (r5 1), (r5 2), (r5 3)] : List Nat)[i]?)))))), ((r5 0), .inl (cI, 6, .inl (fun _ => 0))), ((r5 1), .inl (cI, 6, .inl (fun _ => 0))), ((r5 2), .inl (cI, 6, .inl (fun _ => 0))), ((r5 3), .inl (cI, 6, .inl (fun _ => 0)))] := hD
  have hP9 := hP.sub (ws' := [(a0, .inr (6, [.ref q1, .ref q2, .ref q3, .ref q4])), (q1, .inl (cI, 3, .inl (fun _ => 0))), (q2, .inl (cI, 4, .inl (fun _ => 0))), (q3, .inl (cI, 4, .inl (fun _ => 0))), (q4, .inl (cQ, 4, .inr (.inr (.inr (.inr (fun i => ([(r5 0), (r5 1), (r5 2), (r5 3)] : List Nat)[i]?)))))), ((r5 0), .inl (cI, 6, .inl (fun _ => 0))), ((r5 1), .inl (cI, 6, .inl (fun _ => 0))), ((r5 2), .inl (cI, 6, .inl (fun _ => 0))), ((r5 3), .inl (cI, 6, .inl (fun _ => 0)))]) [0, 1, 2, 3, 4, 5, 6, 7, 8] rfl
  have hD9 := hD.sub (ws' := [(a0, .inr (6, [.ref q1, .ref q2, .ref q3, .ref q4])), (q1, .inl (cI, 3, .inl (fun _ => 0))), (q2, .inl (cI, 4, .inl (fun _ => 0))), (q3, .inl (cI, 4, .inl (fun _ => 0))), (q4, .inl (cQ, 4, .inr (.inr (.inr (.inr (fun i => ([(r5 0), (r5 1), (r5 2), (r5 3)] : List Nat)[i]?)))))), ((r5 0), .inl (cI, 6, .inl (fun _ => 0))), ((r5 1), .inl (cI, 6, .inl (fun _ => 0))), ((r5 2), .inl (cI, 6, .inl (fun _ => 0))), ((r5 3), .inl (cI, 6, .inl (fun _ => 0)))]) [0, 1, 2, 3, 4, 5, 6, 7, 8] (by decide) rfl
  exact W.vret hx hb hr (fun t ht hW => ⟨⟨(fun k => ([q1, q2, q3, q4, (r5 0), (r5 1), (r5 2), (r5 3)] : List Nat).getD k 0), rfl, trivial, by rw [ht]; exact hP9, va_K.moved hW.alike hK, hD9⟩, hS.F ht⟩) hS.2.2 (dk_at dkX6_init_1 3 rfl)
