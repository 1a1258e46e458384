theorem aoa_spec {t : FieldType} {s : State} (h : va_AOA t s) : ∃ comp c k, s.vm.findClass (FieldType.array t).toString = some comp ∧ (s.vm.classes.findIdx? fun (x : Class) => match x.kind with | .array component _ => component == comp | _ => false) = some c ∧ s.vm.classes[c]? = some k ∧ k.kind = .array comp (.array t) ∧ s.vm.findClass ("[" ++ (FieldType.array t).toString) = some c := by
  unfold va_AOA Cond.before at h
  simp only [Cond.holds, Cond.value, beq_iff_eq] at h
  cases hc : s.vm.findClass (FieldType.array t).toString with
  | none => simp [hc] at h
  | some comp =>
    simp only [hc, Option.bind_some, Option.bind_eq_some_iff, Option.map_eq_some_iff] at h
    obtain ⟨c, hi, k, hk, hb⟩ := h
    obtain ⟨hlt, hp, -⟩ := Array.findIdx?_eq_some_iff_getElem.mp hi
    have hkk : s.vm.classes[c] = k := (Array.getElem?_eq_some_iff.mp hk).2
    rw [hkk] at hp
    cases hkind : k.kind with
    | array component ty =>
      rw [hkind] at hb hp
      simp at hb hp
      exact ⟨comp, c, k, rfl, hi, hk, by rw [hkind, hp, hb.1], hb.2⟩
    | _ => rw [hkind] at hb; simp at hb
theorem va_AOA.moved {t : FieldType} {u U : State} (hvm : u.vm.Alike U.vm) (h : va_AOA t u) : va_AOA t U := by
  obtain ⟨comp, c, k, h1, h2, h3, h4, h5⟩ := aoa_spec h
  obtain ⟨k', hk', he⟩ := hvm.2.2 _ _ h3
  have hi : (U.vm.classes.findIdx? fun (x : Class) => match x.kind with | .array component _ => component == comp | _ => false) = some c := by
    have h6 := va_idx_bare U.vm comp
    have h7 := va_idx_bare u.vm comp
    have eb : U.vm.bare = u.vm.bare := by first | exact hvm.bare_eq.symm | exact hvm.bare_eq
    rw [eb] at h6
    exact h6.symm.trans (h7.trans h2)
  have hkind : k'.kind = .array comp (.array t) := by rw [he]; exact h4
  have f1 : U.vm.findClass (FieldType.array t).toString = some comp := by rw [hvm.findClass]; exact h1
  have f2 : U.vm.findClass ("[" ++ (FieldType.array t).toString) = some c := by rw [hvm.findClass]; exact h5
  unfold va_AOA Cond.before Cond.holds
  simp only [Cond.value]
  rw [f1, Option.bind_some]
  refine (congrArg (fun o : Option Nat => (o.bind (fun c => (U.vm.classes[c]?).map fun (k : Class) => match k.kind with | .array _ ty => decide (ty = FieldType.array t) && decide (U.vm.findClass ("[" ++ (FieldType.array t).toString) = some c) | _ => false) == some true)) hi).trans ?_
  simp [hk', hkind, f2]
def exN (U : State) : Prop := va_Nw (.methodLinkNest RX11 9 yX7_init "StackKeys") U ∧ va_Nw (.methodLinkNest RX11 27 yX0_init "StackKeys") U ∧ va_Nw (.methodLinkNest RX11 34 yX2_init "StackKeys") U ∧ va_Nw (.methodLinkNest RX11 41 yX1_init "StackKeys") U ∧ va_Nw (.methodLinkNest RX11 48 yX10_init "StackKeys") U ∧ va_Nw (.methodLinkNest RX11 55 yX4_init "StackKeys") U ∧ va_Nw (.methodLinkNest RX4 17 yX6_init "StackKeys") U ∧ va_Nw (.methodLinkNest RX11 62 yX6_init "StackKeys") U ∧ va_Nw (.methodLinkNest RX11 73 yX9_init "StackKeys") U ∧ va_Nw (.methodLinkNest RX9 55 yX8_init "StackKeys") U ∧ va_Nw (.methodLinkNest RX9 62 yX6_init "StackKeys") U ∧ va_AOA .int U
theorem exN.warm {s U : State} (hW : s.WarmedH U.vm) (h : exN s) : exN U := by
  obtain ⟨h0, h1, h2, h3, h4, h5, h6, h7, h8, h9, h10, ha⟩ := h
  exact ⟨va_Nw.warmM hW h0, va_Nw.warmM hW h1, va_Nw.warmM hW h2, va_Nw.warmM hW h3, va_Nw.warmM hW h4, va_Nw.warmM hW h5, va_Nw.warmM hW h6, va_Nw.warmM hW h7, va_Nw.warmM hW h8, va_Nw.warmM hW h9, va_Nw.warmM hW h10, va_AOA.moved hW.alike ha⟩
theorem exN.same {u U : State} (hv : u.vm = U.vm) (h : exN u) : exN U := by
  obtain ⟨h0, h1, h2, h3, h4, h5, h6, h7, h8, h9, h10, ha⟩ := h
  exact ⟨va_Nw.same rfl hv h0, va_Nw.same rfl hv h1, va_Nw.same rfl hv h2, va_Nw.same rfl hv h3, va_Nw.same rfl hv h4, va_Nw.same rfl hv h5, va_Nw.same rfl hv h6, va_Nw.same rfl hv h7, va_Nw.same rfl hv h8, va_Nw.same rfl hv h9, va_Nw.same rfl hv h10, va_AOA.moved (hv ▸ Vm.Alike.refl u.vm) ha⟩
def ownText : String := "place door box key person thing wants must bar has shut lost at in by when or and not all who spot keys closed min max "
def ownBytes : List Int32 := [112, 108, 97, 99, 101, 32, 100, 111, 111, 114, 32, 98, 111, 120, 32, 107, 101, 121, 32, 112, 101, 114, 115, 111, 110, 32, 116, 104, 105, 110, 103, 32, 119, 97, 110, 116, 115, 32, 109, 117, 115, 116, 32, 98, 97, 114, 32, 104, 97, 115, 32, 115, 104, 117, 116, 32, 108, 111, 115, 116, 32, 97, 116, 32, 105, 110, 32, 98, 121, 32, 119, 104, 101, 110, 32, 111, 114, 32, 97, 110, 100, 32, 110, 111, 116, 32, 97, 108, 108, 32, 119, 104, 111, 32, 115, 112, 111, 116, 32, 107, 101, 121, 115, 32, 99, 108, 111, 115, 101, 100, 32, 109, 105, 110, 32, 109, 97, 120, 32]
def exS (aK aV : Nat) (A : Nat → Prop) (U : State) : Prop := vk_R RX5 34 ownText aK U ∧ vk_S 1 [119] [ownBytes] (fun _ => aK) (fun _ => aV) A U U.heap ∧ va_Z "java/lang/String" "COMPACT_STRINGS" "Z" (.int 1) A U U.heap ∧ va_Zq "jdk/internal/util/Preconditions" "SIOOBE_FORMATTER" "Ljava/util/function/BiFunction;" A U U.heap
theorem exS.same {aK aV : Nat} {A : Nat → Prop} {u U : State} (hv : U.vm = u.vm) (hh : U.heap = u.heap) (h : exS aK aV A u) : exS aK aV A U := by
  obtain ⟨h1, h2, h3, h4⟩ := h
  have hal : u.vm.Alike U.vm := hv ▸ Vm.Alike.refl u.vm
  refine ⟨h1.same hv, ?_, ?_, ?_⟩
  · rw [hh]; exact h2.moved hal
  · rw [hh]; exact h3.moved hal
  · rw [hh]; exact h4.moved hal
theorem exS.call {aK aV : Nat} {A A1 : Nat → Prop} {s U : State} {H : Heap} {locs : List Loc} (h : exS aK aV A s) (hW : s.WarmedH U.vm) (hU : U.heap = H) (hS : va_S A s.heap H locs) (hF : ∀ q, A1 q → A q) : exS aK aV A1 U := by
  obtain ⟨h1, h2, h3, h4⟩ := h
  refine ⟨h1.warm hW, ?_, ?_, ?_⟩
  · rw [hU]; exact ((h2.moved hW.alike).kept hS.2.1).narrow hF
  · rw [hU]; exact ((h3.moved hW.alike).kept hS.2.1).narrow hF
  · rw [hU]; exact ((h4.moved hW.alike).kept hS.2.1).narrow hF
