/-! The reader of tests: operators held back, frames, the depth of what is coded. -/
def nz (f : Nat → Int) : Nat → Int
  | 0 => 0
  | n + 1 => nz f n + (if f n = 22 then 0 else 1)
def k4 (f : Nat → Int) : Nat → Int
  | 0 => 0
  | n + 1 => k4 f n + (if f n = 4 then 1 else 0)
def rk (op : Int) : Int := if op = 21 then 1 else if op = 20 then 2 else if op = 22 then 3 else if op = 17 ∨ op = 18 ∨ op = 19 then 4 else if op = 10 ∨ op = 11 then 5 else 6
theorem rk_r (op : Int) : 1 ≤ rk op ∧ rk op ≤ 6 := by
  unfold rk
  split
  · omega
  · split
    · omega
    · split
      · omega
      · split
        · omega
        · split <;> omega
theorem nz_0 (f : Nat → Int) : ∀ n, 0 ≤ nz f n
  | 0 => Int.le_refl 0
  | n + 1 => by
    have := nz_0 f n
    unfold nz
    split <;> omega
theorem nz_out {f : Nat → Int} {i : Nat} {v : Int} : ∀ n, n ≤ i → nz (up f i v) n = nz f n
  | 0, _ => rfl
  | n + 1, h => by
    unfold nz
    rw [nz_out n (by omega), up_ne _ _ (show n ≠ i by omega)]
theorem nz_up {f : Nat → Int} {i : Nat} {v : Int} : nz (up f i v) (i + 1) = nz f i + (if v = 22 then 0 else 1) := by
  have e : nz (up f i v) (i + 1) = nz (up f i v) i + (if up f i v i = 22 then 0 else 1) := rfl
  rw [e, nz_out i (Nat.le_refl _), up_same]
theorem nz_s {f : Nat → Int} {i : Nat} : nz f (i + 1) = nz f i + (if f i = 22 then 0 else 1) := rfl
theorem k4_out {f : Nat → Int} {i : Nat} {v : Int} : ∀ n, n ≤ i → k4 (up f i v) n = k4 f n
  | 0, _ => rfl
  | n + 1, h => by
    unfold k4
    rw [k4_out n (by omega), up_ne _ _ (show n ≠ i by omega)]
theorem k4_0 (f : Nat → Int) : ∀ n, 0 ≤ k4 f n
  | 0 => Int.le_refl 0
  | n + 1 => by
    have := k4_0 f n
    unfold k4
    split <;> omega
theorem k4_up {f : Nat → Int} {i : Nat} {v : Int} : k4 (up f i v) (i + 1) = k4 f i + (if v = 4 then 1 else 0) := by
  have e : k4 (up f i v) (i + 1) = k4 (up f i v) i + (if up f i v i = 4 then 1 else 0) := rfl
  rw [e, k4_out i (Nat.le_refl _), up_same]
theorem k4_s {f : Nat → Int} {i : Nat} : k4 f (i + 1) = k4 f i + (if f i = 4 then 1 else 0) := rfl
def okr (f : Nat → Int) (a n : Nat) : Prop := ∀ j, a ≤ j → j < n → nz f (j + 1) - nz f a ≤ rk (f j)
def FR (f g : Nat → Int) (D m : Int) : Prop := g 0 = 0 ∧ (∀ i : Nat, (i : Int) + 1 < D → g i ≤ g (i + 1) ∧ okr f (g i).toNat (g (i + 1)).toNat) ∧ (∀ i : Nat, (i : Int) < D → nz f (g i).toNat ≤ 6 * i) ∧ g (D - 1).toNat ≤ m ∧ okr f (g (D - 1).toNat).toNat m.toNat ∧ ∀ j : Nat, (j : Int) < m → 10 ≤ f j
theorem okr_out {f : Nat → Int} {i a n : Nat} {v : Int} (h : okr f a n) (hn : n ≤ i) (ha : a ≤ i) : okr (up f i v) a n := by
  intro j h1 h2
  rw [nz_out _ (by omega), nz_out _ ha, up_ne _ _ (show j ≠ i by omega)]
  exact h j h1 h2
section FRS
variable {f g : Nat → Int} {D m : Int}
theorem FR.le0 (h : FR f g D m) : ∀ k : Nat, (k : Int) < D → g (D - 1 - k).toNat ≤ m
  | 0, _ => by
    have e : (D - 1 - ((0 : Nat) : Int)).toNat = (D - 1).toNat := by omega
    rw [e]
    exact h.2.2.2.1
  | k + 1, hk => by
    have ih := FR.le0 h k (by omega)
    have e : (D - 1 - (k : Int)).toNat = (D - 1 - ((k + 1 : Nat) : Int)).toNat + 1 := by omega
    rw [e] at ih
    have := (h.2.1 (D - 1 - ((k + 1 : Nat) : Int)).toNat (by omega)).1
    omega
theorem FR.le (h : FR f g D m) (i : Nat) (hi : (i : Int) < D) : g i ≤ m := by
  have := FR.le0 h (D - 1 - i).toNat (by omega)
  have e : (D - 1 - ((D - 1 - (i : Int)).toNat : Int)).toNat = i := by omega
  rw [e] at this
  exact this
theorem FR.pop (h : FR f g D m) (hg : ∀ i, 0 ≤ g i) (hm : g (D - 1).toNat < m) : FR f g D (m - 1) := by
  obtain ⟨h1, h2, h3, h4, h5, h6⟩ := h
  exact ⟨h1, h2, h3, by omega, fun j a b => h5 j a (by omega), fun j hj => h6 j (by omega)⟩
theorem FR.push (h : FR f g D m) (hg : ∀ i, 0 ≤ g i) (hD : 1 ≤ D) {x : Int} (hx : 10 ≤ x) (ht : m = g (D - 1).toNat ∨ (nz f m.toNat - nz f (g (D - 1).toNat).toNat) + (if x = 22 then 0 else 1) ≤ rk x) (h0 : m = g (D - 1).toNat → (if x = 22 then 0 else 1) ≤ rk x) : FR (up f m.toNat x) g D (m + 1) := by
  have hle := FR.le h
  obtain ⟨h1, h2, h3, h4, h5, h6⟩ := h
  have hgD := hg (D - 1).toNat
  refine ⟨h1, fun i hi => ⟨(h2 i hi).1, ?_⟩, fun i hi => ?_, by omega, ?_, fun j hj => ?_⟩
  · have a1 := hle (i + 1) (by omega)
    have a2 := hle i (by omega)
    exact okr_out (h2 i hi).2 (by omega) (by omega)
  · have a2 := hle i hi
    rw [nz_out _ (by omega)]
    exact h3 i hi
  · intro j a b
    by_cases e : j = m.toNat
    · subst e
      rw [nz_up, nz_out _ (by omega), up_same]
      rcases ht with ht | ht
      · have := h0 ht
        rw [← ht]
        omega
      · omega
    · rw [nz_out _ (by omega), nz_out _ (by omega), up_ne _ _ e]
      exact h5 j a (by omega)
  · by_cases e : j = m.toNat
    · rw [e, up_same]
      exact hx
    · rw [up_ne _ _ e]
      exact h6 j (by omega)
theorem FR.opn (h : FR f g D m) (hD : 1 ≤ D) (hm : 0 ≤ m) (hb : nz f m.toNat ≤ 6 * D) : FR f (up g D.toNat m) (D + 1) m := by
  obtain ⟨h1, h2, h3, h4, h5, h6⟩ := h
  have eD : (D + 1 - 1).toNat = D.toNat := by omega
  refine ⟨by rw [up_ne _ _ (by omega)]; exact h1, fun i hi => ?_, fun i hi => ?_, ?_, ?_, h6⟩
  · by_cases e : i + 1 = D.toNat
    · have e0 : i = (D - 1).toNat := by omega
      rw [e, up_same, up_ne _ _ (by omega), e0]
      exact ⟨h4, h5⟩
    · rw [up_ne _ _ (by omega), up_ne _ _ e]
      exact h2 i (by omega)
  · by_cases e : i = D.toNat
    · rw [e, up_same]
      omega
    · rw [up_ne _ _ e]
      exact h3 i (by omega)
  · rw [eD, up_same]
    exact Int.le_refl m
  · rw [eD, up_same]
    intro j a b
    omega
theorem FR.close (h : FR f g D m) (hg : ∀ i, 0 ≤ g i) (hD : 2 ≤ D) (hm : m = g (D - 1).toNat) : FR f g (D - 1) m := by
  obtain ⟨h1, h2, h3, h4, h5, h6⟩ := h
  have a := h2 (D - 1 - 1).toNat (by omega)
  have e : (D - 1 - 1).toNat + 1 = (D - 1).toNat := by omega
  rw [e, ← hm] at a
  exact ⟨h1, fun i hi => h2 i (by omega), fun i hi => h3 i (by omega), a.1, a.2, h6⟩
theorem FR.bound (h : FR f g D m) (hg : ∀ i, 0 ≤ g i) (hD : 1 ≤ D) : nz f m.toNat ≤ 6 * D := by
  obtain ⟨h1, h2, h3, h4, h5, h6⟩ := h
  have hgD := hg (D - 1).toNat
  have a := h3 (D - 1).toNat (by omega)
  by_cases e : m = g (D - 1).toNat
  · rw [← e] at a
    omega
  · have b := h5 (m - 1).toNat (by omega) (by omega)
    have r := (rk_r (f (m - 1).toNat)).2
    have e2 : (m - 1).toNat + 1 = m.toNat := by omega
    rw [e2] at b
    omega
theorem FR.top (h : FR f g D m) (hg : ∀ i, 0 ≤ g i) : m = g (D - 1).toNat ∨ nz f m.toNat - nz f (g (D - 1).toNat).toNat ≤ rk (f (m - 1).toNat) := by
  obtain ⟨h1, h2, h3, h4, h5, h6⟩ := h
  have hgD := hg (D - 1).toNat
  by_cases e : m = g (D - 1).toNat
  · exact Or.inl e
  · have b := h5 (m - 1).toNat (by omega) (by omega)
    have e2 : (m - 1).toNat + 1 = m.toNat := by omega
    rw [e2] at b
    exact Or.inr b
end FRS
def DP (c : Nat → Int) (s e v : Int) : Prop := s ≤ e ∧ dep c s.toNat (e - s).toNat = v ∧ ∀ n, n < (e - s).toNat → okc c s.toNat n
theorem DP.add {c : Nat → Int} {s e v x v' : Int} (h : DP c s e v) (hs : 0 ≤ s) (hx : (x ≤ 9 ∧ v' = v + 1) ∨ (x = 22 ∧ 1 ≤ v ∧ v' = v) ∨ (10 ≤ x ∧ x ≤ 21 ∧ 2 ≤ v ∧ v' = v - 1)) : DP (up c e.toNat x) s (e + 1) v' := by
  obtain ⟨h1, h2, h3⟩ := h
  have e1 : (e + 1 - s).toNat = (e - s).toNat + 1 := by omega
  have e2 : s.toNat + (e - s).toNat = e.toNat := by omega
  have hd : dep (up c e.toNat x) s.toNat (e - s).toNat = v := by rw [dep_out _ (by omega)]; exact h2
  refine ⟨by omega, ?_, fun n hn => ?_⟩
  · rw [e1]
    show dep (up c e.toNat x) s.toNat (e - s).toNat + ds (up c e.toNat x (s.toNat + (e - s).toNat)) = v'
    rw [hd, e2, up_same]
    unfold ds
    rcases hx with ⟨a, b⟩ | ⟨a, b, d⟩ | ⟨a, b, d, k⟩
    · rw [if_pos a]
      omega
    · rw [if_neg (by omega), if_pos a]
      omega
    · rw [if_neg (by omega), if_neg (by omega)]
      omega
  · by_cases en : n = (e - s).toNat
    · subst en
      unfold okc
      rw [e2, up_same, hd]
      omega
    · rw [okc_out (by omega)]
      exact h3 n (by omega)
