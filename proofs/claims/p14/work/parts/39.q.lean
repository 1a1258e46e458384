/-! How many states have been come to. -/
def cn (f : Nat → Int) : Nat → Nat
  | 0 => 0
  | n + 1 => cn f n + (if f n = -1 then 0 else 1)
theorem cn_le (f : Nat → Int) : ∀ n, cn f n ≤ n
  | 0 => Nat.le_refl _
  | n + 1 => by
    have := cn_le f n
    unfold cn
    split <;> omega
theorem cn_lt {f : Nat → Int} {i : Nat} (h : f i = -1) : ∀ n, i < n → cn f n < n
  | 0, hi => by omega
  | n + 1, hi => by
    unfold cn
    by_cases e : i = n
    · subst e
      have := cn_le f i
      rw [if_pos h]
      omega
    · have := cn_lt h n (by omega)
      split <;> omega
theorem cn_out {f : Nat → Int} {i : Nat} {v : Int} : ∀ n, n ≤ i → cn (up f i v) n = cn f n
  | 0, _ => rfl
  | n + 1, h => by
    unfold cn
    rw [cn_out n (by omega), up_ne _ _ (show n ≠ i by omega)]
theorem cn_up {f : Nat → Int} {i : Nat} {v : Int} (h : f i = -1) (hv : v ≠ -1) : ∀ n, i < n → cn (up f i v) n = cn f n + 1
  | 0, hi => by omega
  | n + 1, hi => by
    unfold cn
    by_cases e : i = n
    · subst e
      rw [cn_out i (Nat.le_refl _), up_same, if_neg hv, if_pos h]
    · rw [cn_up h hv n (by omega), up_ne _ _ (show n ≠ i by omega)]
      omega
theorem cn_none {f : Nat → Int} : ∀ n, (∀ i, i < n → f i = -1) → cn f n = 0
  | 0, _ => rfl
  | n + 1, h => by
    unfold cn
    rw [cn_none n (fun i hi => h i (by omega)), if_pos (h n (by omega))]
/-- the queue: as long as the number of states come to; each was come to by no more acts than its place -/
def QI (A : St) : Prop := A 0 66 = (cn (A 47) 76832 : Int) ∧ ∀ j : Nat, (j : Int) < A 0 66 → 0 ≤ A 47 (A 48 j).toNat ∧ A 47 (A 48 j).toNat ≤ (j : Int)
theorem QI.fr {M N : List Nat} {A B : St} (h : QI A) (f : fr M N A B) (h1 : M.contains 47 = false) (h2 : M.contains 48 = false) (h3 : N.contains 66 = false) : QI B := by
  unfold QI
  rw [f.1 47 (by decide) h1, f.1 48 (by decide) h2, f.2 66 h3]
  exact h
theorem QI.room {A : St} (h : QI A) {s : Int} (hs : 0 ≤ s ∧ s ≤ 76831) (ha : A 47 s.toNat = -1) : A 0 66 < 76832 := by
  have := cn_lt ha 76832 (by omega)
  have := h.1
  omega
theorem QI.push0 {A : St} (h : QI A) {s b : Int} (hs : 0 ≤ s ∧ s ≤ 76831) (ha : A 47 s.toNat = -1) (hb : 0 ≤ b ∧ b ≤ A 0 66) : QI (stA (stA (stA A 47 s.toNat b) 48 (A 0 66).toNat s) 0 66 (A 0 66 + 1)) := by
  have h66 : (stA (stA (stA A 47 s.toNat b) 48 (A 0 66).toNat s) 0 66 (A 0 66 + 1)) 0 66 = A 0 66 + 1 := rfl
  have h47 : (stA (stA (stA A 47 s.toNat b) 48 (A 0 66).toNat s) 0 66 (A 0 66 + 1)) 47 = up (A 47) s.toNat b := rfl
  have h48 : (stA (stA (stA A 47 s.toNat b) 48 (A 0 66).toNat s) 0 66 (A 0 66 + 1)) 48 = up (A 48) (A 0 66).toNat s := rfl
  have hq0 : 0 ≤ A 0 66 := by have := h.1; omega
  unfold QI
  rw [h66, h47, h48]
  refine ⟨?_, fun j hj => ?_⟩
  · rw [cn_up ha (by omega) 76832 (by omega)]
    have := h.1
    omega
  · by_cases e : j = (A 0 66).toNat
    · subst e
      rw [up_same, up_same]
      omega
    · rw [up_ne _ _ e]
      have hj' : (j : Int) < A 0 66 := by omega
      have hk := h.2 j hj'
      by_cases e2 : (A 48 j).toNat = s.toNat
      · rw [e2, ha] at hk
        omega
      · rw [up_ne _ _ e2]
        exact hk
theorem QI.push {A : St} (h : QI A) {s b q : Int} (hq : A 0 66 = q) (hs : 0 ≤ s ∧ s ≤ 76831) (ha : A 47 s.toNat = -1) (hb : 0 ≤ b ∧ b ≤ q) : QI (stA (stA (stA A 47 s.toNat b) 48 q.toNat s) 0 66 (q + 1)) := by
  subst hq
  exact QI.push0 h hs ha hb
theorem QI.start {A : St} (h : ∀ i : Nat, i < 76832 → A 47 i = -1) (h0 : A 0 66 = 0) : QI A := by
  refine ⟨?_, fun j hj => by omega⟩
  rw [h0, cn_none 76832 h]
  rfl
