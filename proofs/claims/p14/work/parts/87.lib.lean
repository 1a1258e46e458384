/-! fewest keys: a count that falls; a key is left; images: the walk over the tape -/
theorem php : ∀ (m N : Nat) (f : Nat → Int), (∀ c : Nat, c < N → ∃ o, o < m ∧ f o = (c : Int)) → N ≤ m
  | 0, N, f, h => by
    by_cases e : N = 0
    · omega
    · obtain ⟨o, ho, _⟩ := h 0 (by omega)
      omega
  | m + 1, N, f, h => by
    by_cases e : N = 0
    · omega
    · have ih := php m (N - 1) (fun o => if f o = ((N - 1 : Nat) : Int) then f m else f o) (fun c hc => by
        by_cases ec : f m = (c : Int)
        · obtain ⟨o, ho, hf⟩ := h (N - 1) (by omega)
          by_cases eo : o = m
          · subst eo
            omega
          · exact ⟨o, by omega, by show (if f o = ((N - 1 : Nat) : Int) then f m else f o) = _; rw [if_pos hf]; exact ec⟩
        · obtain ⟨o, ho, hf⟩ := h c (by omega)
          by_cases eo : o = m
          · subst eo
            exact absurd hf ec
          · exact ⟨o, by omega, by show (if f o = ((N - 1 : Nat) : Int) then f m else f o) = _; rw [if_neg (by omega)]; exact hf⟩)
      omega
def fv (f : Nat → Int) : Nat → Int
  | 0 => 0
  | m + 1 => fv f m + f m * 8 ^ (6 - m)
def fmz (f : Nat → Int) (m : Int) : Nat := if m < 0 then 0 else ((33554432 - (fv f m.toNat + (f m.toNat + 1) * 8 ^ (6 - m.toNat))) * 8 + (8 - m)).toNat
theorem p8_pos (k : Nat) : (1 : Int) ≤ 8 ^ k := by
  have h : 1 ≤ 8 ^ k := Nat.one_le_pow _ _ (by decide)
  have c : ((8 ^ k : Nat) : Int) = 8 ^ k := by simp
  rw [← c]
  omega
theorem p8_le {k : Nat} (hk : k ≤ 6) : (8 : Int) ^ k ≤ 262144 := by
  have h : 8 ^ k ≤ 8 ^ 6 := Nat.pow_le_pow_right (by decide) hk
  have c : ((8 ^ k : Nat) : Int) = 8 ^ k := by simp
  have d : (8 : Nat) ^ 6 = 262144 := by decide
  rw [← c]
  omega
theorem fv_out {f : Nat → Int} {i : Nat} {v : Int} : ∀ n, n ≤ i → fv (up f i v) n = fv f n
  | 0, _ => rfl
  | n + 1, h => by
    unfold fv
    rw [fv_out n (by omega), up_ne _ _ (show n ≠ i by omega)]
theorem fv_le {f : Nat → Int} : ∀ n : Nat, n ≤ 7 → (∀ i : Nat, i < n → f i ≤ 6) → fv f n ≤ n * 1572864
  | 0, _, _ => by show (0 : Int) ≤ _; omega
  | n + 1, hn, h => by
    have ih := fv_le n (by omega) (fun i hi => h i (by omega))
    have h6 := h n (by omega)
    have p1 := p8_pos (6 - n)
    have p2 := p8_le (k := 6 - n) (by omega)
    have m1 := Int.mul_le_mul_of_nonneg_right h6 (show (0 : Int) ≤ 8 ^ (6 - n) by omega)
    unfold fv
    omega
theorem fm_fwd {f g : Nat → Int} {m w : Int} (hm : 0 ≤ m ∧ m ≤ 5) (hf : ∀ i : Nat, (i : Int) < m → f i ≤ 6) (hw : f m.toNat + 1 ≤ w ∧ w ≤ 6) (hg : g = up (up f m.toNat w) (m + 1).toNat (-1)) : fmz g (m + 1) < fmz f m := by
  have e1 : (m + 1).toNat = m.toNat + 1 := by omega
  unfold fmz
  rw [if_neg (by omega), if_neg (by omega), hg, e1, up_same]
  have hv : fv (up (up f m.toNat w) (m.toNat + 1) (-1)) (m.toNat + 1) = fv f m.toNat + w * 8 ^ (6 - m.toNat) := by
    rw [fv_out _ (Nat.le_refl _)]
    show fv (up f m.toNat w) m.toNat + up f m.toNat w m.toNat * 8 ^ (6 - m.toNat) = _
    rw [fv_out _ (Nat.le_refl _), up_same]
  rw [hv]
  have hle := fv_le (f := f) m.toNat (by omega) (fun i hi => hf i (by omega))
  have p1 := p8_pos (6 - m.toNat)
  have p2 := p8_le (k := 6 - m.toNat) (by omega)
  have m1 := Int.mul_le_mul_of_nonneg_right hw.1 (show (0 : Int) ≤ 8 ^ (6 - m.toNat) by omega)
  have m2 := Int.mul_le_mul_of_nonneg_right hw.2 (show (0 : Int) ≤ 8 ^ (6 - m.toNat) by omega)
  have z0 : (-1 + 1 : Int) * 8 ^ (6 - (m.toNat + 1)) = 0 := by simp
  rw [z0]
  omega
theorem fm_bwd {f g : Nat → Int} {m w : Int} (hm : 0 ≤ m ∧ m ≤ 5) (hf : ∀ i : Nat, (i : Int) ≤ m → -1 ≤ f i ∧ f i ≤ 5) (hg : g = up f m.toNat w) : fmz g (m - 1) < fmz f m := by
  have hle := fv_le (f := f) m.toNat (by omega) (fun i hi => by have := hf i (by omega); omega)
  have p1 := p8_pos (6 - m.toNat)
  have p2 := p8_le (k := 6 - m.toNat) (by omega)
  have hfm := hf m.toNat (by omega)
  have m2 := Int.mul_le_mul_of_nonneg_right (show f m.toNat + 1 ≤ 6 by omega) (show (0 : Int) ≤ 8 ^ (6 - m.toNat) by omega)
  unfold fmz
  rw [if_neg (show ¬ m < 0 by omega)]
  by_cases e : m = 0
  · rw [if_pos (by omega)]
    omega
  · rw [if_neg (by omega), hg]
    have e1 : m.toNat = (m - 1).toNat + 1 := by omega
    have hv : fv f m.toNat = fv f (m - 1).toNat + f (m - 1).toNat * 8 ^ (6 - (m - 1).toNat) := by
      rw [e1]
      rfl
    have hp : (8 : Int) ^ (6 - (m - 1).toNat) = 8 * 8 ^ (6 - m.toNat) := by
      have e2 : 6 - (m - 1).toNat = (6 - m.toNat) + 1 := by omega
      rw [e2, Int.pow_succ, Int.mul_comm]
    rw [fv_out _ (by omega), up_ne _ _ (by omega)]
    have hd : (f (m - 1).toNat + 1) * 8 ^ (6 - (m - 1).toNat) = f (m - 1).toNat * 8 ^ (6 - (m - 1).toNat) + 8 * 8 ^ (6 - m.toNat) := by
      rw [Int.add_mul, Int.one_mul, hp]
    rw [hd]
    omega
theorem up_up {f : Nat → Int} {i : Nat} {a b : Int} : up (up f i a) i b = up f i b := by
  funext k
  by_cases e : k = i
  · rw [e, up_same, up_same]
  · rw [up_ne _ _ e, up_ne _ _ e, up_ne _ _ e]
/-- keys below w are all in use -/
def used (f : Nat → Int) (m w : Int) : Prop := ∀ c : Nat, (c : Int) < w → ∃ o : Nat, (o : Int) < m ∧ f o = (c : Int)
theorem used_step {f g : Nat → Int} {m w : Int} (hm : 0 ≤ m) (h : used f m w) (hw : ∃ o : Nat, (o : Int) < m ∧ f o = w) (hg : g = up f m.toNat (w + 1)) : used g m (w + 1) := by
  intro c hc
  have key : ∃ o : Nat, (o : Int) < m ∧ f o = (c : Int) := by
    by_cases e : (c : Int) < w
    · exact h c e
    · obtain ⟨o, h1, h2⟩ := hw
      exact ⟨o, h1, by omega⟩
  obtain ⟨o, h1, h2⟩ := key
  exact ⟨o, h1, by rw [hg, up_ne _ _ (by omega)]; exact h2⟩
theorem used_le {f : Nat → Int} {m w : Int} (hm : 0 ≤ m) (hw : 0 ≤ w) (h : used f m w) : w ≤ m := by
  have := php m.toNat w.toNat f (fun c hc => by
    obtain ⟨o, h1, h2⟩ := h c (by omega)
    exact ⟨o, by omega, h2⟩)
  omega
/-- where key k's bytes begin -/
def wlk (t : Nat → Int) (a : Int) : Nat → Int
  | 0 => a
  | k + 1 => wlk t a k + 2 + t (wlk t a k + 1).toNat
def wgd (t : Nat → Int) (a n : Int) (k : Nat) : Prop := (0 ≤ t (wlk t a k).toNat ∧ t (wlk t a k).toNat ≤ 40) ∧ (0 ≤ t (wlk t a k + 1).toNat ∧ t (wlk t a k + 1).toNat ≤ 6) ∧ wlk t a k + 2 + t (wlk t a k + 1).toNat ≤ n ∧ ∀ i : Nat, (i : Int) < t (wlk t a k + 1).toNat → 0 ≤ t (wlk t a k + 2 + i).toNat ∧ t (wlk t a k + 2 + i).toNat ≤ 9
theorem up_id {f : Nat → Int} {i : Nat} : f = up f i (f i) := by
  funext k
  by_cases e : k = i
  · rw [e, up_same]
  · rw [up_ne _ _ e]
theorem kr_fwd {f g : Nat → Int} {m w x : Int} (hm : 0 ≤ m) (h : ∀ i : Nat, (i : Int) ≤ m → f i < x) (hw : w < x) (hx : 0 ≤ x) (hg : g = up (up f m.toNat w) (m + 1).toNat (-1)) : ∀ i : Nat, (i : Int) ≤ m + 1 → g i < x := by
  intro i hi
  rw [hg]
  by_cases e : i = (m + 1).toNat
  · rw [e, up_same]
    omega
  · rw [up_ne _ _ e]
    by_cases e2 : i = m.toNat
    · rw [e2, up_same]
      exact hw
    · rw [up_ne _ _ e2]
      exact h i (by omega)
theorem kr_bwd {f g : Nat → Int} {m w x : Int} (h : ∀ i : Nat, (i : Int) ≤ m → f i < x) (hg : g = up f m.toNat w) (hm : 0 ≤ m) : ∀ i : Nat, (i : Int) ≤ m - 1 → g i < x := by
  intro i hi
  rw [hg, up_ne _ _ (by omega)]
  exact h i (by omega)
theorem ofI {f : Nat → Int} {P : Int → Prop} {k : Int} (hk : 0 ≤ k) (h : ∀ j : Nat, (j : Int) < k → P (f j)) (hn : P (f k.toNat)) : ∀ j : Nat, (j : Int) < k + 1 → P (f j) := by
  intro j hj
  by_cases e : j = k.toNat
  · rw [e]
    exact hn
  · exact h j (by omega)
theorem rowI {t : Nat → Int} {a k : Int} (hk : 0 ≤ k) (h : ∀ j : Nat, (j : Int) < k → 0 ≤ t (a + j).toNat ∧ t (a + j).toNat ≤ 9) (hn : 0 ≤ t (a + k).toNat ∧ t (a + k).toNat ≤ 9) : ∀ j : Nat, (j : Int) < k + 1 → 0 ≤ t (a + j).toNat ∧ t (a + j).toNat ≤ 9 := by
  intro j hj
  by_cases e : (j : Int) = k
  · rw [e]
    exact hn
  · exact h j (by omega)
theorem wgI {t : Nat → Int} {a n k : Int} (hk : 0 ≤ k) (h : ∀ j : Nat, (j : Int) < k → wgd t a n j) (hn : wgd t a n k.toNat) : ∀ j : Nat, (j : Int) < k + 1 → wgd t a n j := by
  intro j hj
  by_cases e : j = k.toNat
  · rw [e]
    exact hn
  · exact h j (by omega)
theorem wlk_s {t : Nat → Int} {a k x y : Int} (hk : 0 ≤ k) (hx : x = wlk t a k.toNat) (hy : y = t (x + 1).toNat) : x + (2 + y) = wlk t a (k + 1).toNat := by
  have e : (k + 1).toNat = k.toNat + 1 := by omega
  rw [e]
  show _ = wlk t a k.toNat + 2 + t (wlk t a k.toNat + 1).toNat
  rw [← hx, ← hy]
  omega
theorem wgd_mk {t : Nat → Int} {a n k x v y : Int} (hx : x = wlk t a k.toNat) (hv : v = t x.toNat) (hy : y = t (x + 1).toNat) (h1 : 0 ≤ v ∧ v ≤ 40) (h2 : 0 ≤ y ∧ y ≤ 6) (h3 : x + 2 + y ≤ n) (h4 : ∀ i : Nat, (i : Int) < y → 0 ≤ t (x + 2 + i).toNat ∧ t (x + 2 + i).toNat ≤ 9) : wgd t a n k.toNat := by
  unfold wgd
  rw [← hx, ← hv, ← hy]
  exact ⟨h1, h2, h3, h4⟩
theorem wgd_at {t : Nat → Int} {a n k x : Int} (h : wgd t a n k.toNat) (hx : x = wlk t a k.toNat) : (0 ≤ t x.toNat ∧ t x.toNat ≤ 40) ∧ (0 ≤ t (x + 1).toNat ∧ t (x + 1).toNat ≤ 6) ∧ x + 2 + t (x + 1).toNat ≤ n ∧ ∀ i : Nat, (i : Int) < t (x + 1).toNat → 0 ≤ t (x + 2 + i).toNat ∧ t (x + 2 + i).toNat ≤ 9 := by
  unfold wgd at h
  rw [← hx] at h
  exact h
