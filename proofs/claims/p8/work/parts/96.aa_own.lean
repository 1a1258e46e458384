/-! The class's own words, letter by letter out of their text. -/
def oc (n : Nat) : Int32 := ((ownBytes.getD n 0 &&& 255).toUInt32 % 65536).toInt32
def ost : Nat → Int32 × Int32 × List Int32
  | 0 => (0, 0, List.replicate 26 0)
  | n + 1 => bif oc n == 32 then ((ost n).1 + 1, 0, (ost n).2.2) else ((ost n).1, (ost n).2.1 + 1, (ost n).2.2.set (ost n).1.toNatClampNeg ((ost n).2.2.getD (ost n).1.toNatClampNeg 0 ||| (oc n - 96) <<< ((5 * (ost n).2.1) &&& 31)))
def OWf (f : Nat → Int32) : Prop := ∀ k : Nat, k < 26 → f k = iI (own5 k)
def HO (i w z : Int32) (f : Nat → Int32) : Prop := (ost i.toInt.toNat).1 = w ∧ (ost i.toInt.toNat).2.1 = z ∧ ∀ k : Nat, f k = (ost i.toInt.toNat).2.2.getD k 0
set_option maxRecDepth 100000 in
theorem ost_own : ∀ k : Fin 26, (ost 119).2.2.getD k.val 0 = iI (own5 k.val) := by decide +kernel
set_option maxRecDepth 100000 in
theorem ost_w : ∀ n : Fin 119, (ost n.val).1.toInt < 26 := by decide +kernel
theorem ost_len : ∀ n, (ost n).2.2.length = 26
  | 0 => rfl
  | n + 1 => by
    unfold ost
    cases oc n == 32 with
    | true => exact ost_len n
    | false =>
      show ((ost n).2.2.set _ _).length = 26
      rw [List.length_set]
      exact ost_len n
theorem HO_0 : HO 0 0 0 (fun _ => 0) := by
  have e : (0 : Int32).toInt.toNat = 0 := by decide +kernel
  unfold HO
  rw [e]
  refine ⟨rfl, rfl, fun k => ?_⟩
  show (0 : Int32) = (List.replicate 26 (0 : Int32)).getD k 0
  rw [List.getD_eq_getElem?_getD, List.getElem?_replicate]
  split <;> rfl
theorem HO_sp {i w z r : Int32} {f : Nat → Int32} (h0 : 0 ≤ i.toInt) (hi1 : (i + 1).toInt = i.toInt + 1) (hr : r = oc i.toNatClampNeg) (hc : r = 32) (h : HO i w z f) : HO (i + 1) (w + 1) 0 f := by
  have e : (i + 1).toInt.toNat = i.toInt.toNat + 1 := by omega
  have hr : r = oc i.toInt.toNat := hr
  have b : (oc i.toInt.toNat == 32) = true := by rw [← hr, hc]; rfl
  obtain ⟨h1, h2, h3⟩ := h
  unfold HO
  rw [e]
  have s : ost (i.toInt.toNat + 1) = ((ost i.toInt.toNat).1 + 1, 0, (ost i.toInt.toNat).2.2) := by
    show (bif oc i.toInt.toNat == 32 then _ else _) = _
    rw [b]
    rfl
  rw [s]
  exact ⟨by rw [h1], rfl, h3⟩
theorem HO_le {i w z r : Int32} {f : Nat → Int32} (h0 : 0 ≤ i.toInt) (hi1 : (i + 1).toInt = i.toInt + 1) (hw : w.toInt < 26) (hr : r = oc i.toNatClampNeg) (hc : ¬ r = 32) (h : HO i w z f) : HO (i + 1) w (z + 1) (upd f w.toNatClampNeg (f w.toNatClampNeg ||| (r - 96) <<< ((5 * z) &&& 31))) := by
  have e : (i + 1).toInt.toNat = i.toInt.toNat + 1 := by omega
  have hr : r = oc i.toInt.toNat := hr
  have b : (oc i.toInt.toNat == 32) = false := by
    rw [← hr]
    exact beq_false_of_ne hc
  obtain ⟨h1, h2, h3⟩ := h
  unfold HO
  rw [e]
  have s : ost (i.toInt.toNat + 1) = ((ost i.toInt.toNat).1, (ost i.toInt.toNat).2.1 + 1, (ost i.toInt.toNat).2.2.set (ost i.toInt.toNat).1.toNatClampNeg ((ost i.toInt.toNat).2.2.getD (ost i.toInt.toNat).1.toNatClampNeg 0 ||| (oc i.toInt.toNat - 96) <<< ((5 * (ost i.toInt.toNat).2.1) &&& 31))) := by
    show (bif oc i.toInt.toNat == 32 then _ else _) = _
    rw [b]
    rfl
  rw [s]
  refine ⟨h1, by rw [h2], fun k => ?_⟩
  show upd f w.toNatClampNeg (f w.toNatClampNeg ||| (r - 96) <<< ((5 * z) &&& 31)) k = ((ost i.toInt.toNat).2.2.set (ost i.toInt.toNat).1.toNatClampNeg ((ost i.toInt.toNat).2.2.getD (ost i.toInt.toNat).1.toNatClampNeg 0 ||| (oc i.toInt.toNat - 96) <<< ((5 * (ost i.toInt.toNat).2.1) &&& 31))).getD k 0
  rw [h1, h2, ← hr, ← h3]
  have hl := ost_len i.toInt.toNat
  have hn : w.toNatClampNeg < 26 := by
    have : w.toNatClampNeg = w.toInt.toNat := rfl
    omega
  have u1 : ∀ (a : Nat) (v : Int32), upd f a v a = v := fun a v => by simp [upd]
  have u2 : ∀ (a k : Nat) (v : Int32), ¬ k = a → upd f a v k = f k := fun a k v h => by simp [upd, h]
  rw [List.getD_eq_getElem?_getD, List.getElem?_set]
  by_cases g : k = w.toNatClampNeg
  · subst g
    rw [u1, if_pos rfl, if_pos (by rw [hl]; exact hn)]
    rfl
  · rw [u2 _ _ _ g, if_neg (fun x => g x.symm), h3 k, List.getD_eq_getElem?_getD]
theorem HO_end {i w z : Int32} {f : Nat → Int32} (hi : i.toInt = 119) (h : HO i w z f) : OWf f := by
  intro k hk
  have h3 := h.2.2 k
  rw [hi] at h3
  exact h3.trans (ost_own ⟨k, hk⟩)
theorem HO_w {i w z : Int32} {f : Nat → Int32} (h0 : 0 ≤ i.toInt) (h1 : i.toInt < 119) (h : HO i w z f) : w.toInt < 26 := by
  have := ost_w ⟨i.toInt.toNat, by omega⟩
  rw [← h.1]
  exact this
theorem OWf_g {g : Nat → Int} (hg : ∀ k, R32 (g k)) (h : OWf (aI g)) : ∀ k : Nat, k < 26 → g k = own5 k := by
  intro k hk
  have h1 : iI (g k) = iI (own5 k) := h k hk
  have r : ∀ k : Fin 26, -2147483648 ≤ own5 k.val ∧ own5 k.val ≤ 2147483647 := by decide +kernel
  have h2 := congrArg Int32.toInt h1
  rw [iI_toInt (hg k), iI_toInt (r ⟨k, hk⟩)] at h2
  exact h2
