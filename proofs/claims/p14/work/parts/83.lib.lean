/-! codes at work; searches -/
theorem okcI {f : Nat → Int} {s len k n z : Int} (hw : wfc f s.toNat len.toNat) (hs : 0 ≤ s) (hk : s ≤ k ∧ k < s + len) (hn : n = dep f s.toNat (k - s).toNat) (hz : z = f k.toNat) : z ≤ 9 ∨ (z = 22 ∧ 1 ≤ n) ∨ (10 ≤ z ∧ z ≤ 21 ∧ 2 ≤ n) := by
  have h := hw.2 (k - s).toNat (by omega)
  unfold okc at h
  have e : s.toNat + (k - s).toNat = k.toNat := by omega
  rw [e, ← hz, ← hn] at h
  exact h
theorem dep_stepI {f : Nat → Int} {s k n n' z : Int} (hs : 0 ≤ s) (hk : s ≤ k) (hn : n = dep f s.toNat (k - s).toNat) (hz : z = f k.toNat) (h : (z ≤ 9 ∧ n' = n + 1) ∨ (z = 22 ∧ n' = n) ∨ (10 ≤ z ∧ z ≤ 21 ∧ n' = n - 1)) : n' = dep f s.toNat (k + 1 - s).toNat := by
  have e1 : (k + 1 - s).toNat = (k - s).toNat + 1 := by omega
  have e : s.toNat + (k - s).toNat = k.toNat := by omega
  rw [e1]
  show n' = dep f s.toNat (k - s).toNat + ds (f (s.toNat + (k - s).toNat))
  rw [e, ← hz, ← hn]
  unfold ds
  rcases h with ⟨a, b⟩ | ⟨a, b⟩ | ⟨a, b, d⟩
  · rw [if_pos a]
    omega
  · rw [if_neg (by omega), if_pos a]
    omega
  · rw [if_neg (by omega), if_neg (by omega)]
    omega
theorem CI.at {A : St} (h : CI A) (hI : IM A) {k x y : Int} (hk : 6 * A 0 12 ≤ k ∧ k < 6 * A 0 12 + A 29 (A 0 12).toNat) (hx : x = A 31 k.toNat) (hy : y = A 32 k.toNat) : x ≤ y ∧ wfc (A 33) (1600 * A 0 12 + x).toNat (y - x).toNat := by
  have r1 : (0 : Int) ≤ A 0 12 := (hI 0 12).1
  have r2 : A 0 12 ≤ 1 := (hI 0 12).2
  have g := h (A 0 12).toNat (k - 6 * A 0 12).toNat (by omega) (by omega)
  have e : 6 * (A 0 12).toNat + (k - 6 * A 0 12).toNat = k.toNat := by omega
  rw [e, ← hx, ← hy] at g
  have r3 : (0 : Int) ≤ x := by rw [hx]; exact (hI 31 _).1
  have e2 : (1600 * A 0 12 + x).toNat = 1600 * (A 0 12).toNat + x.toNat := by omega
  rw [e2]
  exact ⟨g.1, g.2.2⟩
theorem ct_mono {f : Nat → Int} {s : Nat} {p : Int} {n : Nat} : ∀ m, ct f s p n ≤ ct f s p (n + m)
  | 0 => Int.le_refl _
  | m + 1 => by
    have := ct_mono (f := f) (s := s) (p := p) (n := n) m
    have e : ct f s p (n + (m + 1)) = ct f s p (n + m) + (if f (s + (n + m)) = p then 1 else 0) := rfl
    rw [e]
    split <;> omega
/-- a want that is found is one of two -/
theorem WI.two {A : St} (h : WI A) (hI : IM A) {k m p : Int} (hk : 6 * A 0 12 ≤ k ∧ k < 6 * A 0 12 + A 22 (A 0 12).toNat) (hm : m = ct (A 23) (6 * A 0 12).toNat p (k - 6 * A 0 12).toNat) (hp : A 23 k.toNat = p) : m ≤ 1 := by
  have r1 : (0 : Int) ≤ A 0 12 := (hI 0 12).1
  have r2 : A 0 12 ≤ 1 := (hI 0 12).2
  have g := h.le (b := A 0 12) ⟨r1, r2⟩ p
  have g2 := ct_stepI (f := A 23) (p := p) (b := 6 * A 0 12) (i := k) (m := m) (m' := m + 1) (by omega) hk.1 hm (Or.inl ⟨hp, rfl⟩)
  have g3 := ct_mono (f := A 23) (s := (6 * A 0 12).toNat) (p := p) (n := (k + 1 - 6 * A 0 12).toNat) ((A 22 (A 0 12).toNat).toNat - (k + 1 - 6 * A 0 12).toNat)
  have e : (k + 1 - 6 * A 0 12).toNat + ((A 22 (A 0 12).toNat).toNat - (k + 1 - 6 * A 0 12).toNat) = (A 22 (A 0 12).toNat).toNat := by omega
  rw [e, ← g2] at g3
  omega
theorem all_step {f g : Nat → Int} {k : Int} (hk : 0 ≤ k) (h : ∀ i : Nat, (i : Int) < k → f i = -1) (hg : g = up f k.toNat (-1)) : ∀ i : Nat, (i : Int) < k + 1 → g i = -1 := by
  intro i hi
  rw [hg]
  by_cases e : i = k.toNat
  · rw [e, up_same]
  · rw [up_ne _ _ e]
    exact h i (by omega)
