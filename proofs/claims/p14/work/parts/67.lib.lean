/-! Wants: at most two a person. -/
theorem ct_out {f : Nat → Int} {s i : Nat} {p v : Int} : ∀ n, (i < s ∨ s + n ≤ i) → ct (up f i v) s p n = ct f s p n
  | 0, _ => rfl
  | n + 1, h => by
    have ih := ct_out (f := f) (s := s) (i := i) (p := p) (v := v) n (by omega)
    show ct (up f i v) s p n + (if up f i v (s + n) = p then 1 else 0) = ct f s p n + (if f (s + n) = p then 1 else 0)
    rw [ih, up_ne _ _ (show s + n ≠ i by omega)]
theorem ct_stepI {f : Nat → Int} {p b i m m' : Int} (hb : 0 ≤ b) (hi : b ≤ i) (h : m = ct f b.toNat p (i - b).toNat) (hm : (f i.toNat = p ∧ m' = m + 1) ∨ (¬ f i.toNat = p ∧ m' = m)) : m' = ct f b.toNat p (i + 1 - b).toNat := by
  have e : (i + 1 - b).toNat = (i - b).toNat + 1 := by omega
  have e2 : b.toNat + (i - b).toNat = i.toNat := by omega
  rw [e]
  show m' = ct f b.toNat p (i - b).toNat + (if f (b.toNat + (i - b).toNat) = p then 1 else 0)
  rw [e2, ← h]
  rcases hm with ⟨h1, h2⟩ | ⟨h1, h2⟩
  · rw [if_pos h1, h2]
  · rw [if_neg h1, h2]
    omega
theorem WI.le {A : St} (h : WI A) {b : Int} (hb : 0 ≤ b ∧ b ≤ 1) (p : Int) : ct (A 23) (6 * b).toNat p (A 22 b.toNat).toNat ≤ 2 := by
  rcases (show b = 0 ∨ b = 1 by omega) with rfl | rfl
  · exact (h p).1
  · exact (h p).2
theorem WI.skip {A B : St} {b k z : Int} (h : WI A) (hd : B = stA A 23 k.toNat z) (hb : 0 ≤ b ∧ b ≤ 1) (hk : k = 6 * b + A 22 b.toNat) (h0 : 0 ≤ A 22 0 ∧ A 22 0 ≤ 6) (h1 : 0 ≤ A 22 1 ∧ A 22 1 ≤ 6) (h5 : A 22 b.toNat ≤ 5) : WI B := by
  subst hd
  intro p
  have e22 : stA A 23 k.toNat z 22 = A 22 := stA_ne _ _ (by decide)
  have e23 : stA A 23 k.toNat z 23 = up (A 23) k.toNat z := stA_same _ _ _ _
  rw [e22, e23]
  rcases (show b = 0 ∨ b = 1 by omega) with rfl | rfl
  · have hk' : k = A 22 0 := by rw [hk]; simp
    have h5' : A 22 0 ≤ 5 := h5
    rw [ct_out _ (by omega), ct_out _ (by omega)]
    exact h p
  · have hk' : k = 6 + A 22 1 := by rw [hk]; simp
    rw [ct_out _ (by omega), ct_out _ (by omega)]
    exact h p
theorem WI.inc {A P B : St} {b n z p m k : Int} (h : WI P) (e23 : P 23 = up (A 23) k.toNat z) (hk : k = 6 * b + n) (hb : 0 ≤ b ∧ b ≤ 1) (hn : P 22 b.toNat = n) (hn6 : 0 ≤ n ∧ n ≤ 5) (hB : B = stA P 22 b.toNat (n + 1)) (hm : m = ct (A 23) (6 * b).toNat p n.toNat) (hpz : p = z) (hm1 : m ≤ 1) : WI B := by
  subst hB
  subst hpz
  intro r
  have hr := h r
  have e22 : stA P 22 b.toNat (n + 1) 22 = up (P 22) b.toNat (n + 1) := stA_same _ _ _ _
  have e23' : stA P 22 b.toNat (n + 1) 23 = P 23 := stA_ne _ _ (by decide)
  rw [e22, e23']
  have key : ∀ s : Nat, s = (6 * b).toNat → ct (P 23) s r n.toNat ≤ 2 → ct (P 23) s r (n + 1).toNat ≤ 2 := by
    intro s hs h2
    have e1 : (n + 1).toNat = n.toNat + 1 := by omega
    rw [e1]
    show ct (P 23) s r n.toNat + (if P 23 (s + n.toNat) = r then 1 else 0) ≤ 2
    have e2 : s + n.toNat = k.toNat := by omega
    rw [e2]
    have e3 : P 23 k.toNat = p := by rw [e23, up_same]
    rw [e3]
    by_cases hpr : p = r
    · subst hpr
      rw [if_pos rfl, e23, ct_out _ (by omega), hs, ← hm]
      omega
    · rw [if_neg hpr]
      omega
  rcases (show b = 0 ∨ b = 1 by omega) with rfl | rfl
  · have hn' : P 22 0 = n := hn
    refine ⟨?_, ?_⟩
    · show ct (P 23) 0 r (up (P 22) 0 (n + 1) 0).toNat ≤ 2
      rw [up_same]
      exact key 0 rfl (by rw [← hn']; exact hr.1)
    · show ct (P 23) 6 r (up (P 22) 0 (n + 1) 1).toNat ≤ 2
      rw [up_ne _ _ (by decide)]
      exact hr.2
  · have hn' : P 22 1 = n := hn
    refine ⟨?_, ?_⟩
    · show ct (P 23) 0 r (up (P 22) 1 (n + 1) 0).toNat ≤ 2
      rw [up_ne _ _ (by decide)]
      exact hr.1
    · show ct (P 23) 6 r (up (P 22) 1 (n + 1) 1).toNat ≤ 2
      rw [up_same]
      exact key 6 rfl (by rw [← hn']; exact hr.2)
theorem rd22 {A B : St} {i : Nat} {v : Int} {k : Nat} (h : B = stA A 23 i v) : B 22 k = A 22 k := by rw [h, stA_ne _ _ (by decide)]
