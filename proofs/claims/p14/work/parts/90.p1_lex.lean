/-! The town's text: tokens, as a function of the tape; the class's reader of tokens. -/
theorem stA_stA (A : St) (j i : Nat) (v w : Int) : stA (stA A j i v) j i w = stA A j i w := by
  funext a b
  by_cases ha : a = j
  · subst ha
    rw [stA_same, stA_same, stA_same]
    by_cases hb : b = i
    · subst hb
      rw [up_same, up_same]
    · rw [up_ne _ _ hb, up_ne _ _ hb, up_ne _ _ hb]
  · rw [stA_ne _ _ ha, stA_ne _ _ ha, stA_ne _ _ ha]
theorem stA_self (A : St) (j i : Nat) (v : Int) (h : A j i = v) : stA A j i v = A := by
  funext a b
  by_cases ha : a = j
  · subst ha
    rw [stA_same]
    by_cases hb : b = i
    · subst hb
      rw [up_same, h]
    · rw [up_ne _ _ hb]
  · rw [stA_ne _ _ ha]
theorem stA_comm (A : St) (j : Nat) {i i' : Nat} (v w : Int) (h : i ≠ i') : stA (stA A j i v) j i' w = stA (stA A j i' w) j i v := by
  funext a b
  by_cases ha : a = j
  · subst ha
    simp only [stA_same]
    by_cases hb : b = i
    · subst hb
      rw [up_ne _ _ h, up_same, up_same]
    · by_cases hb' : b = i'
      · subst hb'
        rw [up_same, up_ne _ _ hb, up_same]
      · rw [up_ne _ _ hb', up_ne _ _ hb, up_ne _ _ hb, up_ne _ _ hb']
  · simp only [stA_ne _ _ ha]
abbrev isL (v : Int) : Prop := 97 ≤ v ∧ v ≤ 122
abbrev isD (v : Int) : Prop := 48 ≤ v ∧ v ≤ 57
abbrev isB (v : Int) : Prop := v = 10 ∨ v = 32
def skp (f : Nat → Int) : Nat → Nat → Nat
  | 0, p => p
  | k + 1, p => if isB (f p) then skp f k (p + 1) else p
def rnn (lo hi : Int) (f : Nat → Int) : Nat → Nat → Nat
  | 0, p => p
  | k + 1, p => if lo ≤ f p ∧ f p ≤ hi then rnn lo hi f k (p + 1) else p
abbrev adj (f : Nat → Int) (s : Nat) : Prop := 0 < s ∧ (isL (f (s - 1)) ∨ isD (f (s - 1)))
def sAt (f : Nat → Int) (N p : Nat) : Nat := skp f (N - p) p
def wEnd (f : Nat → Int) (N s : Nat) : Nat := rnn 97 122 f (N - s) s
def nEnd (f : Nat → Int) (N s : Nat) : Nat := rnn 48 57 f (N - s) s
def tKind (f : Nat → Int) (N p : Nat) : Int :=
  if N ≤ sAt f N p then 0
  else if isL (f (sAt f N p)) then (if adj f (sAt f N p) ∨ sAt f N p + 6 < wEnd f N (sAt f N p) then 4 else 1)
  else if isD (f (sAt f N p)) then (if adj f (sAt f N p) ∨ sAt f N p + 4 < nEnd f N (sAt f N p) then 4 else 2)
  else 3
def tEnd (f : Nat → Int) (N p : Nat) : Nat :=
  if N ≤ sAt f N p then sAt f N p
  else if isL (f (sAt f N p)) then wEnd f N (sAt f N p)
  else if isD (f (sAt f N p)) then nEnd f N (sAt f N p)
  else sAt f N p + 1
def w5 (f : Nat → Int) (s : Nat) : Nat → Int
  | 0 => 0
  | k + 1 => w5 f s k + (f (s + k) - 96) * 32 ^ k
def w8 (f : Nat → Int) (s : Nat) : Nat → Int
  | 0 => 0
  | k + 1 => 256 * w8 f s k + f (s + k)
def nm10 (f : Nat → Int) (s : Nat) : Nat → Int
  | 0 => 0
  | k + 1 => 10 * nm10 f s k + (f (s + k) - 48)
theorem skp_le (f : Nat → Int) : ∀ k p, p ≤ skp f k p ∧ skp f k p ≤ p + k := by
  intro k
  induction k with
  | zero => intro p; exact ⟨Nat.le_refl _, Nat.le_refl _⟩
  | succ k ih =>
    intro p
    unfold skp
    split
    · have := ih (p + 1)
      omega
    · omega
theorem rnn_le (lo hi : Int) (f : Nat → Int) : ∀ k p, p ≤ rnn lo hi f k p ∧ rnn lo hi f k p ≤ p + k := by
  intro k
  induction k with
  | zero => intro p; exact ⟨Nat.le_refl _, Nat.le_refl _⟩
  | succ k ih =>
    intro p
    unfold rnn
    split
    · have := ih (p + 1)
      omega
    · omega
theorem skp_go {f : Nat → Int} {N p : Nat} (h : p < N) (hb : isB (f p)) : skp f (N - p) p = skp f (N - (p + 1)) (p + 1) := by
  obtain ⟨k, hk⟩ : ∃ k, N - p = k + 1 := ⟨N - p - 1, by omega⟩
  rw [hk, show N - (p + 1) = k by omega]
  conv => lhs; unfold skp
  rw [if_pos hb]
theorem skp_stop {f : Nat → Int} {N p : Nat} (h : N ≤ p ∨ ¬ isB (f p)) : skp f (N - p) p = p := by
  cases hk : N - p with
  | zero => rfl
  | succ k =>
    unfold skp
    rw [if_neg (by rcases h with h | h; omega; exact h)]
theorem rnn_go {lo hi : Int} {f : Nat → Int} {N p : Nat} (h : p < N) (hb : lo ≤ f p ∧ f p ≤ hi) : rnn lo hi f (N - p) p = rnn lo hi f (N - (p + 1)) (p + 1) := by
  obtain ⟨k, hk⟩ : ∃ k, N - p = k + 1 := ⟨N - p - 1, by omega⟩
  rw [hk, show N - (p + 1) = k by omega]
  conv => lhs; unfold rnn
  rw [if_pos hb]
theorem rnn_stop {lo hi : Int} {f : Nat → Int} {N p : Nat} (h : N ≤ p ∨ ¬ (lo ≤ f p ∧ f p ≤ hi)) : rnn lo hi f (N - p) p = p := by
  cases hk : N - p with
  | zero => rfl
  | succ k =>
    unfold rnn
    rw [if_neg (by rcases h with h | h; omega; exact h)]
theorem rnn_all {lo hi : Int} {f : Nat → Int} : ∀ k p i, p ≤ i → i < rnn lo hi f k p → lo ≤ f i ∧ f i ≤ hi := by
  intro k
  induction k with
  | zero =>
    intro p i h1 h2
    have h2 : i < p := h2
    omega
  | succ k ih =>
    intro p i h1 h2
    unfold rnn at h2
    split at h2
    · by_cases h : i = p
      · subst h; assumption
      · exact ih (p + 1) i (by omega) h2
    · omega
theorem sAt_le {f : Nat → Int} {N p : Nat} (h : p ≤ N) : p ≤ sAt f N p ∧ sAt f N p ≤ N := by
  have := skp_le f (N - p) p
  unfold sAt
  omega
theorem w5_lt {f : Nat → Int} {s : Nat} : ∀ n, (∀ k, k < n → isL (f (s + k))) → 0 ≤ w5 f s n ∧ w5 f s n < 32 ^ n := by
  intro n
  induction n with
  | zero => intro _; exact ⟨Int.le_refl _, (by decide : (0 : Int) < 32 ^ 0)⟩
  | succ n ih =>
    intro h
    have h1 := ih (fun k hk => h k (by omega))
    have h2 := h n (by omega)
    have hp : (0 : Int) < 32 ^ n := by exact_mod_cast Nat.pow_pos (n := n) (show 0 < 32 by decide)
    have e : (32 : Int) ^ (n + 1) = 32 * 32 ^ n := by rw [Int.pow_succ]; omega
    have m1 : 0 ≤ (f (s + n) - 96) * 32 ^ n := Int.mul_nonneg (by omega) (by omega)
    have m2 : (f (s + n) - 96) * 32 ^ n ≤ 26 * 32 ^ n := Int.mul_le_mul_of_nonneg_right (by omega) (by omega)
    show 0 ≤ w5 f s n + (f (s + n) - 96) * 32 ^ n ∧ w5 f s n + (f (s + n) - 96) * 32 ^ n < 32 ^ (n + 1)
    rw [e]
    omega
theorem oOr_nat {a b : Nat} (ha : a < 1073741824) (hb : b < 1073741824) : oOr (a : Int) (b : Int) = ((a ||| b : Nat) : Int) := by
  have e : (iI (a : Int) ||| iI (b : Int)).toBitVec = (iI (a : Int)).toBitVec ||| (iI (b : Int)).toBitVec := Int32.toBitVec_or _ _
  have na : (iI (a : Int)).toBitVec.toNat = a := by rw [bv_nat]; omega
  have nb : (iI (b : Int)).toBitVec.toNat = b := by rw [bv_nat]; omega
  have l : a ||| b < 2 ^ 30 := Nat.or_lt_two_pow (by simpa using ha) (by simpa using hb)
  show (iI (a : Int) ||| iI (b : Int)).toBitVec.toInt = _
  rw [BitVec.toInt_eq_toNat_cond, e, BitVec.toNat_or, na, nb]
  have : (2 : Nat) ^ 30 = 1073741824 := by decide
  rw [if_pos (by omega)]
theorem oShl_let : ∀ d : Fin 27, ∀ i : Fin 6, oShl (d.val : Int) (5 * (i.val : Int)) = (d.val : Int) * 32 ^ i.val := by decide +kernel
theorem w5_step {v d : Int} {i : Nat} (hi : i ≤ 5) (hv : 0 ≤ v ∧ v < 32 ^ i) (hd : 1 ≤ d ∧ d ≤ 26) : oOr v (oShl d (5 * (i : Int))) = v + d * 32 ^ i := by
  have e := oShl_let ⟨d.toNat, by omega⟩ ⟨i, by omega⟩
  simp only [show ((d.toNat : Nat) : Int) = d by omega] at e
  rw [e]
  have hp : (0 : Nat) < 32 ^ i := Nat.pow_pos (by decide)
  have h5 : (32 : Nat) ^ i ≤ 32 ^ 5 := Nat.pow_le_pow_right (by decide) hi
  have h55 : (32 : Nat) ^ 5 = 33554432 := by decide
  have ec : ((32 ^ i : Nat) : Int) = 32 ^ i := by simp
  have h1 : d * 32 ^ i = ((d.toNat * 32 ^ i : Nat) : Int) := by rw [Int.natCast_mul, ec, show ((d.toNat : Nat) : Int) = d by omega]
  have h2 : d.toNat * 32 ^ i ≤ 26 * 32 ^ i := Nat.mul_le_mul_right _ (by omega)
  have hv2 : v.toNat < 32 ^ i := by omega
  have ev : v = (v.toNat : Int) := by omega
  rw [h1, ev, oOr_nat (by omega) (by omega)]
  have hor : 2 ^ (5 * i) * d.toNat + v.toNat = 2 ^ (5 * i) * d.toNat ||| v.toNat := Nat.two_pow_add_eq_or_of_lt (by rw [Nat.pow_mul]; exact hv2) _
  rw [Nat.pow_mul] at hor
  have hor2 : 32 ^ i * d.toNat + v.toNat = 32 ^ i * d.toNat ||| v.toNat := hor
  rw [Nat.or_comm, Nat.mul_comm, ← hor2]
  omega
theorem oWrap_id {a : Int} (h : R32 a) : oWrap a = a := iI_toInt h
