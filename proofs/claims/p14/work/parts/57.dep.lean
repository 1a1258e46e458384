/-! Depth of a row of codes. -/
def ds (op : Int) : Int := if op ≤ 9 then 1 else if op = 22 then 0 else -1
def dep (f : Nat → Int) (s : Nat) : Nat → Int
  | 0 => 0
  | n + 1 => dep f s n + ds (f (s + n))
def okc (f : Nat → Int) (s n : Nat) : Prop := f (s + n) ≤ 9 ∨ (f (s + n) = 22 ∧ 1 ≤ dep f s n) ∨ (10 ≤ f (s + n) ∧ f (s + n) ≤ 21 ∧ 2 ≤ dep f s n)
def wfc (f : Nat → Int) (s len : Nat) : Prop := 1 ≤ dep f s len ∧ ∀ n, n < len → okc f s n
theorem dep_out {f : Nat → Int} {s i : Nat} {v : Int} : ∀ n, s + n ≤ i → dep (up f i v) s n = dep f s n
  | 0, _ => rfl
  | n + 1, h => by
    unfold dep
    rw [dep_out n (by omega), up_ne _ _ (show s + n ≠ i by omega)]
theorem okc_out {f : Nat → Int} {s i n : Nat} {v : Int} (h : s + n < i) : okc (up f i v) s n ↔ okc f s n := by
  unfold okc
  rw [dep_out n (by omega), up_ne _ _ (show s + n ≠ i by omega)]
theorem dep_le {f : Nat → Int} {s : Nat} : ∀ n, dep f s n ≤ n
  | 0 => by simp [dep]
  | n + 1 => by
    have := dep_le (f := f) (s := s) n
    unfold dep ds
    split
    · omega
    · split <;> omega
