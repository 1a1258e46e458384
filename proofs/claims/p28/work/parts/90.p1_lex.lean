/-! The town's text: tokens, as a function of the tape; the class's reader of tokens. -/
theorem stA_stA (A : St) (j i : Nat) (v w : Int) : stA (stA A j i v) j i w = stA A j i w := by
  funext a b
  by_cases ha : a = j
  · subst ha
    rw [stA_same, stA_same, stA_same]
    by_cases hb : b = i
    · subst hb
      rw [up_same, up_same]
    · rw [up_ne _ _ hb, up_ne _ _ hb, up_ne _ _ hb]
  · rw [stA_ne _ _ ha, stA_ne _ _ ha, stA_ne _ _ ha]
theorem stA_self (A : St) (j i : Nat) (v : Int) (h : A j i = v) : stA A j i v = A := by
  funext a b
  by_cases ha : a = j
  · subst ha
    rw [stA_same]
    by_cases hb : b = i
    · subst hb
      rw [up_same, h]
    · rw [up_ne _ _ hb]
  · rw [stA_ne _ _ ha]
theorem stA_comm (A : St) (j : Nat) {i i' : Nat} (v w : Int) (h : i ≠ i') : stA (stA A j i v) j i' w = stA (stA A j i' w) j i v := by
  funext a b
  by_cases ha : a = j
  · subst ha
    simp only [stA_same]
    by_cases hb : b = i
    · subst hb
      rw [up_ne _ _ h, up_same, up_same]
    · by_cases hb' : b = i'
      · subst hb'
        rw [up_same, up_ne _ _ hb, up_same]
      · rw [up_ne _ _ hb', up_ne _ _ hb, up_ne _ _ hb, up_ne _ _ hb']
  · simp only [stA_ne _ _ ha]
abbrev isL (v : Int) : Prop := 97 ≤ v ∧ v ≤ 122
abbrev isD (v : Int) : Prop := 48 ≤ v ∧ v ≤ 57
abbrev isB (v : Int) : Prop := v = 10 ∨ v = 32
def skp (f : Nat → Int) : Nat → Nat → Nat
  | 0, p => p
  | k + 1, p => if isB (f p) then skp f k (p + 1) else p
def rnn (lo hi : Int) (f : Nat → Int) : Nat → Nat → Nat
  | 0, p => p
  | k + 1, p => if lo ≤ f p ∧ f p ≤ hi then rnn lo hi f k (p + 1) else p
abbrev adj (f : Nat → Int) (s : Nat) : Prop := 0 < s ∧ (isL (f (s - 1)) ∨ isD (f (s - 1)))
def sAt (f : Nat → Int) (N p : Nat) : Nat := skp f (N - p) p
def wEnd (f : Nat → Int) (N s : Nat) : Nat := rnn 97 122 f (N - s) s
def nEnd (f : Nat → Int) (N s : Nat) : Nat := rnn 48 57 f (N - s) s
def tKind (f : Nat → Int) (N p : Nat) : Int :=
  if N ≤ sAt f N p then 0
  else if isL (f (sAt f N p)) then (if adj f (sAt f N p) ∨ sAt f N p + 6 < wEnd f N (sAt f N p) then 4 else 1)
  else if isD (f (sAt f N p)) then (if adj f (sAt f N p) ∨ sAt f N p + 4 < nEnd f N (sAt f N p) then 4 else 2)
  else 3
def tEnd (f : Nat → Int) (N p : Nat) : Nat :=
  if N ≤ sAt f N p then sAt f N p
  else if isL (f (sAt f N p)) then wEnd f N (sAt f N p)
  else if isD (f (sAt f N p)) then nEnd f N (sAt f N p)
  else sAt f N p + 1
def w5 (f : Nat → Int) (s : Nat) : Nat → Int
  | 0 => 0
  | k + 1 => w5 f s k + (f (s + k) - 96) * 32 ^ k
def w8 (f : Nat → Int) (s : Nat) : Nat → Int
  | 0 => 0
  | k + 1 => 256 * w8 f s k + f (s + k)
def nm10 (f : Nat → Int) (s : Nat) : Nat → Int
  | 0 => 0
  | k + 1 => 10 * nm10 f s k + (f (s + k) - 48)
theorem skp_le (f : Nat → Int) : ∀ k p, p ≤ skp f k p ∧ skp f k p ≤ p + k := by
  intro k
  induction k with
  | zero => intro p; exact ⟨Nat.le_refl _, Nat.le_refl _⟩
  | succ k ih =>
    intro p
    unfold skp
    split
    · have := ih (p + 1)
      omega
    · omega
theorem rnn_le (lo hi : Int) (f : Nat → Int) : ∀ k p, p ≤ rnn lo hi f k p ∧ rnn lo hi f k p ≤ p + k := by
  intro k
  induction k with
  | zero => intro p; exact ⟨Nat.le_refl _, Nat.le_refl _⟩
  | succ k ih =>
    intro p
    unfold rnn
    split
    · have := ih (p + 1)
      omega
    · omega
theorem skp_go {f : Nat → Int} {N p : Nat} (h : p < N) (hb : isB (f p)) : skp f (N - p) p = skp f (N - (p + 1)) (p + 1) := by
  obtain ⟨k, hk⟩ : ∃ k, N - p = k + 1 := ⟨N - p - 1, by omega⟩
  rw [hk, show N - (p + 1) = k by omega]
  conv => lhs; unfold skp
  rw [if_pos hb]
theorem skp_stop {f : Nat → Int} {N p : Nat} (h : N ≤ p ∨ ¬ isB (f p)) : skp f (N - p) p = p := by
  cases hk : N - p with
  | zero => rfl
  | succ k =>
    unfold skp
    rw [if_neg (by rcases h with h | h; omega; exact h)]
theorem rnn_go {lo hi : Int} {f : Nat → Int} {N p : Nat} (h : p < N) (hb : lo ≤ f p ∧ f p ≤ hi) : rnn lo hi f (N - p) p = rnn lo hi f (N - (p + 1)) (p + 1) := by
  obtain ⟨k, hk⟩ : ∃ k, N - p = k + 1 := ⟨N - p - 1, by omega⟩
  rw [hk, show N - (p + 1) = k by omega]
  conv => lhs; unfold rnn
  rw [if_pos hb]
theorem rnn_stop {lo hi : Int} {f : Nat → Int} {N p : Nat} (h : N ≤ p ∨ ¬ (lo ≤ f p ∧ f p ≤ hi)) : rnn lo hi f (N - p) p = p := by
  cases hk : N - p with
  | zero => rfl
  | succ k =>
    unfold rnn
    rw [if_neg (by rcases h with h | h; omega; exact h)]
theorem rnn_all {lo hi : Int} {f : Nat → Int} : ∀ k p i, p ≤ i → i < rnn lo hi f k p → lo ≤ f i ∧ f i ≤ hi := by
  intro k
  induction k with
  | zero =>
    intro p i h1 h2
    have h2 : i < p := h2
    omega
  | succ k ih =>
    intro p i h1 h2
    unfold rnn at h2
    split at h2
    · by_cases h : i = p
      · subst h; assumption
      · exact ih (p + 1) i (by omega) h2
    · omega
theorem sAt_le {f : Nat → Int} {N p : Nat} (h : p ≤ N) : p ≤ sAt f N p ∧ sAt f N p ≤ N := by
  have := skp_le f (N - p) p
  unfold sAt
  omega
theorem w5_lt {f : Nat → Int} {s : Nat} : ∀ n, (∀ k, k < n → isL (f (s + k))) → 0 ≤ w5 f s n ∧ w5 f s n < 32 ^ n := by
  intro n
  induction n with
  | zero => intro _; exact ⟨Int.le_refl _, (by decide : (0 : Int) < 32 ^ 0)⟩
  | succ n ih =>
    intro h
    have h1 := ih (fun k hk => h k (by omega))
    have h2 := h n (by omega)
    have hp : (0 : Int) < 32 ^ n := by exact_mod_cast Nat.pow_pos (n := n) (show 0 < 32 by decide)
    have e : (32 : Int) ^ (n + 1) = 32 * 32 ^ n := by rw [Int.pow_succ]; omega
    have m1 : 0 ≤ (f (s + n) - 96) * 32 ^ n := Int.mul_nonneg (by omega) (by omega)
    have m2 : (f (s + n) - 96) * 32 ^ n ≤ 26 * 32 ^ n := Int.mul_le_mul_of_nonneg_right (by omega) (by omega)
    show 0 ≤ w5 f s n + (f (s + n) - 96) * 32 ^ n ∧ w5 f s n + (f (s + n) - 96) * 32 ^ n < 32 ^ (n + 1)
    rw [e]
    omega
theorem oOr_nat {a b : Nat} (ha : a < 1073741824) (hb : b < 1073741824) : oOr (a : Int) (b : Int) = ((a ||| b : Nat) : Int) := by
  have e : (iI (a : Int) ||| iI (b : Int)).toBitVec = (iI (a : Int)).toBitVec ||| (iI (b : Int)).toBitVec := Int32.toBitVec_or _ _
  have na : (iI (a : Int)).toBitVec.toNat = a := by rw [bv_nat]; omega
  have nb : (iI (b : Int)).toBitVec.toNat = b := by rw [bv_nat]; omega
  have l : a ||| b < 2 ^ 30 := Nat.or_lt_two_pow (by simpa using ha) (by simpa using hb)
  show (iI (a : Int) ||| iI (b : Int)).toBitVec.toInt = _
  rw [BitVec.toInt_eq_toNat_cond, e, BitVec.toNat_or, na, nb]
  have : (2 : Nat) ^ 30 = 1073741824 := by decide
  rw [if_pos (by omega)]
theorem oShl_let : ∀ d : Fin 27, ∀ i : Fin 6, oShl (d.val : Int) (5 * (i.val : Int)) = (d.val : Int) * 32 ^ i.val := by decide +kernel
theorem w5_step {v d : Int} {i : Nat} (hi : i ≤ 5) (hv : 0 ≤ v ∧ v < 32 ^ i) (hd : 1 ≤ d ∧ d ≤ 26) : oOr v (oShl d (5 * (i : Int))) = v + d * 32 ^ i := by
  have e := oShl_let ⟨d.toNat, by omega⟩ ⟨i, by omega⟩
  simp only [show ((d.toNat : Nat) : Int) = d by omega] at e
  rw [e]
  have hp : (0 : Nat) < 32 ^ i := Nat.pow_pos (by decide)
  have h5 : (32 : Nat) ^ i ≤ 32 ^ 5 := Nat.pow_le_pow_right (by decide) hi
  have h55 : (32 : Nat) ^ 5 = 33554432 := by decide
  have ec : ((32 ^ i : Nat) : Int) = 32 ^ i := by simp
  have h1 : d * 32 ^ i = ((d.toNat * 32 ^ i : Nat) : Int) := by rw [Int.natCast_mul, ec, show ((d.toNat : Nat) : Int) = d by omega]
  have h2 : d.toNat * 32 ^ i ≤ 26 * 32 ^ i := Nat.mul_le_mul_right _ (by omega)
  have hv2 : v.toNat < 32 ^ i := by omega
  have ev : v = (v.toNat : Int) := by omega
  rw [h1, ev, oOr_nat (by omega) (by omega)]
  have hor : 2 ^ (5 * i) * d.toNat + v.toNat = 2 ^ (5 * i) * d.toNat ||| v.toNat := Nat.two_pow_add_eq_or_of_lt (by rw [Nat.pow_mul]; exact hv2) _
  rw [Nat.pow_mul] at hor
  have hor2 : 32 ^ i * d.toNat + v.toNat = 32 ^ i * d.toNat ||| v.toNat := hor
  rw [Nat.or_comm, Nat.mul_comm, ← hor2]
  omega
theorem oWrap_id {a : Int} (h : R32 a) : oWrap a = a := iI_toInt h
/-! The class's reader of tokens: what its methods do is what tKind, tEnd say. -/
def own5L : List Int := [5342608, 605668, 25058, 25771, 486131888, 7808276, 20592695, 675501, 18466, 19496, 677139, 675308, 641, 457, 802, 464151, 591, 4545, 20974, 12673, 15639, 671251, 648363, 140098947, 14637, 24621]
def own5 (k : Nat) : Int := own5L.getD k 0
def ET (f : Nat → Int) (N : Nat) (B : St) : Prop := B 1 1 = (N : Int) ∧ N ≤ 1600 ∧ (∀ k, k < N → f k = B 2 k % 256) ∧ ∀ k, k < 26 → B 4 k = own5 k
def EK (f : Nat → Int) (N : Nat) (B : St) : Prop := IK B ∧ ET f N B
theorem EK.fr {f : Nat → Int} {N : Nat} {B u : St} {P : List Nat} {F : List (Nat × Nat)} (h : EK f N B) (hI : IK u) (hf : fk P F B u) (p1 : P.contains 1 = false) (p2 : P.contains 2 = false) (p4 : P.contains 4 = false) (f1 : fin2 F 1 1 = false) (f2 : ∀ k, fin2 F 2 k = false) (f4 : ∀ k, fin2 F 4 k = false) : EK f N u := by
  refine ⟨hI, by rw [hf 1 1 p1 f1]; exact h.2.1, h.2.2.1, fun k hk => ?_, fun k hk => ?_⟩
  · rw [hf 2 k p2 (f2 k)]
    exact h.2.2.2.1 k hk
  · rw [hf 4 k p4 (f4 k)]
    exact h.2.2.2.2 k hk
theorem cut_loopW {f : Nat → Int} {N s : Nat} {A A9 u : St} (hT : ET f N A) (h3 : A 5 3 = (s : Int)) (h2 : ∀ k, A9 2 k = A 2 k) : ∀ nn q (A11 : St), A11 = stA (stA A9 5 4 (w5 f s (q - s))) 5 1 (q : Int) → s ≤ q → q ≤ N → q ≤ s + 6 → (∀ k, k < q - s → isL (f (s + k))) → d_X3_cut_2 1 97 122 6 A u nn A11 → (s + 6 < rnn 97 122 f (N - q) q ∧ u 5 2 = 4 ∧ u 5 6 = A9 5 6) ∨ (rnn 97 122 f (N - q) q ≤ s + 6 ∧ u = stA (stA (stA A9 5 4 (w5 f s (rnn 97 122 f (N - q) q - s))) 5 1 ((rnn 97 122 f (N - q) q : Nat) : Int)) 5 5 ((rnn 97 122 f (N - q) q : Nat) : Int)) := by
  intro nn
  induction nn with
  | zero => intro q A11 _ _ _ _ _ h; exact h.elim
  | succ n ih =>
    intro q A11 hA h1 h4 h5 hL h
    have a1 : A11 5 1 = (q : Int) := by rw [hA]; rfl
    have a4 : A11 5 4 = w5 f s (q - s) := by rw [hA]; rfl
    have a2 : ∀ k, A11 2 k = A 2 k := fun k => by rw [hA]; exact h2 k
    have a6 : A11 5 6 = A9 5 6 := by rw [hA]; rfl
    obtain ⟨hI, h⟩ := (h : tr_d_X3_cut_2 1 97 122 6 A u (fun A11 => d_X3_cut_2 1 97 122 6 A u n A11) A11)
    rw [a1, hT.1] at h
    rcases h with ⟨c, A22, rfl, rfl⟩ | ⟨c, z27, hz, h⟩
    · rw [rnn_stop (Or.inl (by omega))]
      exact Or.inr ⟨h5, by rw [hA]⟩
    · have hq : q < N := by omega
      have hf : f q = z27 % 256 := by
        rw [hz, Int.toNat_natCast, a2]
        exact hT.2.2.1 q hq
      have hr : -128 ≤ z27 ∧ z27 ≤ 127 := by rw [hz]; exact irTPb hI
      rcases h with ⟨c2, A29, rfl, rfl⟩ | ⟨c2, h⟩
      · rw [rnn_stop (Or.inr (by omega))]
        exact Or.inr ⟨h5, by rw [hA]⟩
      · rcases h with ⟨c3, A32, rfl, rfl⟩ | ⟨c3, h⟩
        · rw [rnn_stop (Or.inr (by omega))]
          exact Or.inr ⟨h5, by rw [hA]⟩
        · have hl : 97 ≤ f q ∧ f q ≤ 122 := by omega
          rw [rnn_go hq hl]
          rcases h with ⟨c4, h⟩ | ⟨c4, A53, rfl, A55, rfl, rfl⟩
          · rcases h with ⟨_, z41, hz41, z42, hz42, h⟩ | ⟨c5, _⟩
            · obtain ⟨_, A49, hA49, A51, hA51, h⟩ := (h : tr_d_X3_cut_3 _ A11 u z42)
              rw [h3] at hz41 c4
              have e1 : z42 = w5 f s (q + 1 - s) := by
                obtain ⟨i, hi⟩ : ∃ i, q = s + i := ⟨q - s, by omega⟩
                subst hi
                rw [hz42, hz41, a4, show s + i - s = i by omega, show (5 * ((s + i : Nat) : Int) - 5 * (s : Int)) = 5 * (i : Int) by omega]
                have b := w5_lt (f := f) (s := s) i (fun k hk => hL k (by omega))
                rw [w5_step (by omega) b (by omega), show s + i + 1 - s = i + 1 by omega]
                show _ = w5 f s i + (f (s + i) - 96) * 32 ^ i
                rw [show z27 - 97 + 1 = f (s + i) - 96 by omega]
              have e2 : A51 = stA (stA A9 5 4 (w5 f s (q + 1 - s))) 5 1 ((q + 1 : Nat) : Int) := by
                rw [hA51, hA49, e1, a1, hA, stA_comm _ 5 (i := 4) (i' := 1) _ _ (by decide), stA_stA, stA_comm _ 5 (i := 1) (i' := 4) _ _ (by decide), stA_stA]
                rfl
              exact ih (q + 1) A51 e2 (by omega) (by omega) (by omega) (fun k hk => by
                by_cases hk2 : k < q - s
                · exact hL k hk2
                · rw [show s + k = q by omega]; exact hl) h
            · exact absurd c5 (by decide)
          · rw [h3] at c4
            have := (rnn_le 97 122 f (N - (q + 1)) (q + 1)).1
            exact Or.inl ⟨by omega, rfl, a6⟩
theorem nm10_b {f : Nat → Int} {s : Nat} : ∀ n, (∀ k, k < n → isD (f (s + k))) → n ≤ 4 → 0 ≤ nm10 f s n ∧ nm10 f s n < 10 ^ n := by
  intro n
  induction n with
  | zero => intro _ _; exact ⟨Int.le_refl _, (by decide : (0 : Int) < 10 ^ 0)⟩
  | succ n ih =>
    intro h h4
    have h1 := ih (fun k hk => h k (by omega)) (by omega)
    have h2 := h n (by omega)
    have e : (10 : Int) ^ (n + 1) = 10 * 10 ^ n := by rw [Int.pow_succ]; omega
    show 0 ≤ 10 * nm10 f s n + (f (s + n) - 48) ∧ 10 * nm10 f s n + (f (s + n) - 48) < 10 ^ (n + 1)
    rw [e]
    omega
theorem nm10_4 {f : Nat → Int} {s n : Nat} (h : ∀ k, k < n → isD (f (s + k))) (h4 : n ≤ 4) : 0 ≤ nm10 f s n ∧ nm10 f s n ≤ 9999 := by
  have h1 := nm10_b n h h4
  have h2 : (10 : Nat) ^ n ≤ 10 ^ 4 := Nat.pow_le_pow_right (by decide) h4
  have h3 : ((10 ^ n : Nat) : Int) = 10 ^ n := by simp
  have h5 : (10 : Nat) ^ 4 = 10000 := by decide
  omega
theorem cut_loopN {f : Nat → Int} {N s : Nat} {A A9 u : St} (hT : ET f N A) (h3 : A 5 3 = (s : Int)) (h2 : ∀ k, A9 2 k = A 2 k) : ∀ nn q (A11 : St), A11 = stA (stA A9 5 4 (nm10 f s (q - s))) 5 1 (q : Int) → s ≤ q → q ≤ N → q ≤ s + 4 → (∀ k, k < q - s → isD (f (s + k))) → d_X3_cut_2 2 48 57 4 A u nn A11 → (s + 4 < rnn 48 57 f (N - q) q ∧ u 5 2 = 4 ∧ u 5 6 = A9 5 6) ∨ (rnn 48 57 f (N - q) q ≤ s + 4 ∧ u = stA (stA (stA A9 5 4 (nm10 f s (rnn 48 57 f (N - q) q - s))) 5 1 ((rnn 48 57 f (N - q) q : Nat) : Int)) 5 5 ((rnn 48 57 f (N - q) q : Nat) : Int)) := by
  intro nn
  induction nn with
  | zero => intro q A11 _ _ _ _ _ h; exact h.elim
  | succ n ih =>
    intro q A11 hA h1 h4 h5 hL h
    have a1 : A11 5 1 = (q : Int) := by rw [hA]; rfl
    have a4 : A11 5 4 = nm10 f s (q - s) := by rw [hA]; rfl
    have a2 : ∀ k, A11 2 k = A 2 k := fun k => by rw [hA]; exact h2 k
    have a6 : A11 5 6 = A9 5 6 := by rw [hA]; rfl
    obtain ⟨hI, h⟩ := (h : tr_d_X3_cut_2 2 48 57 4 A u (fun A11 => d_X3_cut_2 2 48 57 4 A u n A11) A11)
    rw [a1, hT.1] at h
    rcases h with ⟨c, A22, rfl, rfl⟩ | ⟨c, z27, hz, h⟩
    · rw [rnn_stop (Or.inl (by omega))]
      exact Or.inr ⟨h5, by rw [hA]⟩
    · have hq : q < N := by omega
      have hf : f q = z27 % 256 := by
        rw [hz, Int.toNat_natCast, a2]
        exact hT.2.2.1 q hq
      have hr : -128 ≤ z27 ∧ z27 ≤ 127 := by rw [hz]; exact irTPb hI
      rcases h with ⟨c2, A29, rfl, rfl⟩ | ⟨c2, h⟩
      · rw [rnn_stop (Or.inr (by omega))]
        exact Or.inr ⟨h5, by rw [hA]⟩
      · rcases h with ⟨c3, A32, rfl, rfl⟩ | ⟨c3, h⟩
        · rw [rnn_stop (Or.inr (by omega))]
          exact Or.inr ⟨h5, by rw [hA]⟩
        · have hl : 48 ≤ f q ∧ f q ≤ 57 := by omega
          rw [rnn_go hq hl]
          rcases h with ⟨c4, h⟩ | ⟨c4, A53, rfl, A55, rfl, rfl⟩
          · rcases h with ⟨c5, _⟩ | ⟨_, z44, hz44, z45, hz45, h⟩
            · exact absurd rfl c5
            · obtain ⟨_, A49, hA49, A51, hA51, h⟩ := (h : tr_d_X3_cut_3 _ A11 u z45)
              rw [h3] at c4
              have b := nm10_4 (f := f) (s := s) (n := q - s) hL (by omega)
              have e1 : z45 = nm10 f s (q + 1 - s) := by
                have g1 : z44 = 10 * nm10 f s (q - s) := by rw [hz44, a4]; exact oWrap_id ⟨by omega, by omega⟩
                have g2 : z45 = z44 + z27 - 48 := by rw [hz45]; exact oWrap_id ⟨by omega, by omega⟩
                rw [g2, g1, show q + 1 - s = (q - s) + 1 by omega]
                show _ = 10 * nm10 f s (q - s) + (f (s + (q - s)) - 48)
                rw [show s + (q - s) = q by omega]
                omega
              have e2 : A51 = stA (stA A9 5 4 (nm10 f s (q + 1 - s))) 5 1 ((q + 1 : Nat) : Int) := by
                rw [hA51, hA49, e1, a1, hA, stA_comm _ 5 (i := 4) (i' := 1) _ _ (by decide), stA_stA, stA_comm _ 5 (i := 1) (i' := 4) _ _ (by decide), stA_stA]
                rfl
              exact ih (q + 1) A51 e2 (by omega) (by omega) (by omega) (fun k hk => by
                by_cases hk2 : k < q - s
                · exact hL k hk2
                · rw [show s + k = q by omega]; exact hl) h
          · rw [h3] at c4
            have := (rnn_le 48 57 f (N - (q + 1)) (q + 1)).1
            exact Or.inl ⟨by omega, rfl, a6⟩
/-- no token is looked at; the next one is looked for from p on -/
def LX0 (f : Nat → Int) (N p : Nat) (B : St) : Prop := B 5 6 = 0 ∧ B 5 1 = (p : Int) ∧ p ≤ N ∧ (B 5 5 = (p : Int) ↔ adj f p) ∧ B 5 5 ≤ (p : Int)
/-- the value of the token behind p -/
def LV (f : Nat → Int) (N p : Nat) (B : St) : Prop := (tKind f N p = 1 → B 5 4 = w5 f (sAt f N p) (tEnd f N p - sAt f N p)) ∧ (tKind f N p = 2 → B 5 4 = nm10 f (sAt f N p) (tEnd f N p - sAt f N p)) ∧ (tKind f N p = 3 → B 5 4 % 256 = f (sAt f N p) ∧ -128 ≤ B 5 4 ∧ B 5 4 ≤ 127)
/-- the token behind p is looked at -/
def LX1 (f : Nat → Int) (N p : Nat) (B : St) : Prop := B 5 6 = 1 ∧ p ≤ N ∧ B 5 2 = tKind f N p ∧ (tKind f N p ≠ 4 → B 5 1 = (tEnd f N p : Int) ∧ tEnd f N p ≤ N ∧ (B 5 5 = (tEnd f N p : Int) ↔ adj f (tEnd f N p)) ∧ B 5 5 ≤ (tEnd f N p : Int)) ∧ LV f N p B
def LXA (f : Nat → Int) (N p : Nat) (B : St) : Prop := LX0 f N p B ∨ LX1 f N p B
theorem look_loop {f : Nat → Int} {N : Nat} {B A3 u : St} (hE : EK f N B) (h2 : ∀ k, A3 2 k = B 2 k) : ∀ (nn q : Nat) (A5 : St), A5 = stA A3 5 1 (q : Int) → q ≤ N → d_X3_look_1 B u nn A5 → ∃ A5' : St, A5' = stA A3 5 1 ((skp f (N - q) q : Nat) : Int) ∧ IK A5' ∧ d_X3_look_3 B A5' u := by
  intro nn
  induction nn with
  | zero => intro q A5 _ _ h; exact h.elim
  | succ n ih =>
    intro q A5 hA hq h
    have a1 : A5 5 1 = (q : Int) := by rw [hA]; rfl
    have a2 : ∀ k, A5 2 k = B 2 k := fun k => by rw [hA]; exact h2 k
    obtain ⟨hI, h⟩ := (h : tr_d_X3_look_1 B u (fun A5 => d_X3_look_1 B u n A5) A5)
    rw [a1, hE.2.1] at h
    have go : q < N → isB (f q) → d_X3_look_2 (fun A5 => d_X3_look_1 B u n A5) A5 u → ∃ A5' : St, A5' = stA A3 5 1 ((skp f (N - q) q : Nat) : Int) ∧ IK A5' ∧ d_X3_look_3 B A5' u := by
      intro h1 hb h
      obtain ⟨A25, hA25, h⟩ := (h : tr_d_X3_look_2 _ A5 u)
      rw [skp_go h1 hb]
      refine ih (q + 1) A25 ?_ (by omega) h
      rw [hA25, a1, hA, stA_stA]
      rfl
    rcases h with ⟨c, h⟩ | ⟨c, z19, hz, h⟩
    · exact ⟨A5, by rw [skp_stop (Or.inl (by omega))]; exact hA, hI, h⟩
    · have hqN : q < N := by omega
      have hf : f q = z19 % 256 := by
        rw [hz, Int.toNat_natCast, a2]
        exact hE.2.2.2.1 q hqN
      have hr : -128 ≤ z19 ∧ z19 ≤ 127 := by rw [hz]; exact irTPb hI
      rcases h with ⟨c2, h⟩ | ⟨c2, h⟩
      · exact go hqN (Or.inl (by omega)) h
      · rcases h with ⟨c3, h⟩ | ⟨c3, h⟩
        · exact ⟨A5, by rw [skp_stop (Or.inr (by omega))]; exact hA, hI, h⟩
        · exact go hqN (Or.inr (by omega)) h
theorem skp_blank {f : Nat → Int} : ∀ k p i, p ≤ i → i < skp f k p → isB (f i) := by
  intro k
  induction k with
  | zero =>
    intro p i h1 h2
    have h2 : i < p := h2
    omega
  | succ k ih =>
    intro p i h1 h2
    unfold skp at h2
    split at h2
    · by_cases h : i = p
      · subst h; assumption
      · exact ih (p + 1) i (by omega) h2
    · omega
theorem adjS {f : Nat → Int} {N p : Nat} {l : Int} (hp : p ≤ N) (h : l = (p : Int) ↔ adj f p) (hl : l ≤ (p : Int)) : (l = (sAt f N p : Int) ↔ adj f (sAt f N p)) ∧ l ≤ (sAt f N p : Int) := by
  have hs := sAt_le (f := f) hp
  by_cases e : sAt f N p = p
  · rw [e]
    exact ⟨h, hl⟩
  · have hb : isB (f (sAt f N p - 1)) := skp_blank (N - p) p (sAt f N p - 1) (by omega) (by show sAt f N p - 1 < sAt f N p; omega)
    refine ⟨⟨fun g => by omega, fun g => ?_⟩, by omega⟩
    have g2 := g.2
    rcases hb with hb | hb <;> rw [hb] at g2 <;> omega
theorem wEnd_le {f : Nat → Int} {N s : Nat} (h : s < N) (hl : isL (f s)) : s < wEnd f N s ∧ wEnd f N s ≤ N ∧ ∀ k, s ≤ k → k < wEnd f N s → isL (f k) := by
  have h1 := rnn_le 97 122 f (N - (s + 1)) (s + 1)
  have e : wEnd f N s = rnn 97 122 f (N - (s + 1)) (s + 1) := rnn_go h hl
  refine ⟨by omega, by omega, fun k h1 h2 => rnn_all _ _ k h1 h2⟩
theorem nEnd_le {f : Nat → Int} {N s : Nat} (h : s < N) (hl : isD (f s)) : s < nEnd f N s ∧ nEnd f N s ≤ N ∧ ∀ k, s ≤ k → k < nEnd f N s → isD (f k) := by
  have h1 := rnn_le 48 57 f (N - (s + 1)) (s + 1)
  have e : nEnd f N s = rnn 48 57 f (N - (s + 1)) (s + 1) := rnn_go h hl
  refine ⟨by omega, by omega, fun k h1 h2 => rnn_all _ _ k h1 h2⟩
theorem cutW {f : Nat → Int} {N s : Nat} {A u : St} (hT : ET f N A) (h1 : A 5 1 = (s : Int)) (h3 : A 5 3 = (s : Int)) (hs : s < N) (hl : isL (f s)) (h : r_X3_cut 1 97 122 6 A u) : u 5 6 = A 5 6 ∧ (s + 6 < wEnd f N s → u 5 2 = 4) ∧ (wEnd f N s ≤ s + 6 → u 5 2 = (if A 5 5 = (s : Int) then 4 else 1) ∧ u 5 1 = (wEnd f N s : Int) ∧ u 5 5 = (wEnd f N s : Int) ∧ u 5 4 = w5 f s (wEnd f N s - s)) := by
  have key : ∀ z5 : Int, d_X3_cut_1 1 97 122 6 A u z5 → u 5 6 = A 5 6 ∧ (s + 6 < wEnd f N s → u 5 2 = 4) ∧ (wEnd f N s ≤ s + 6 → u 5 2 = z5 ∧ u 5 1 = (wEnd f N s : Int) ∧ u 5 5 = (wEnd f N s : Int) ∧ u 5 4 = w5 f s (wEnd f N s - s)) := by
    intro z5 h
    obtain ⟨_, A8, hA8, A9, hA9, nn, h⟩ := (h : tr_d_X3_cut_1 1 97 122 6 A u z5)
    have e9 : A9 = stA (stA A9 5 4 (w5 f s (s - s))) 5 1 (s : Int) := by
      rw [stA_self (stA A9 5 4 (w5 f s (s - s))) 5 1 (s : Int) (by rw [hA9, hA8]; exact h1), stA_self A9 5 4 (w5 f s (s - s)) (by rw [Nat.sub_self, hA9]; rfl)]
    rcases cut_loopW (A9 := A9) hT h3 (fun k => by rw [hA9, hA8]; rfl) nn s A9 e9 (Nat.le_refl _) (by omega) (by omega) (fun k hk => by omega) h with ⟨g1, g2, g3⟩ | ⟨g1, g2⟩
    · exact ⟨by rw [g3, hA9, hA8]; rfl, fun _ => g2, fun g => by have g1 : s + 6 < wEnd f N s := g1; omega⟩
    · have g2 : u = stA (stA (stA A9 5 4 (w5 f s (wEnd f N s - s))) 5 1 (wEnd f N s : Int)) 5 5 (wEnd f N s : Int) := g2
      refine ⟨by rw [g2, hA9, hA8]; rfl, fun g => ?_, fun _ => ⟨by rw [g2, hA9, hA8]; rfl, by rw [g2]; rfl, by rw [g2]; rfl, by rw [g2]; rfl⟩⟩
      have g1 : wEnd f N s ≤ s + 6 := g1
      omega
  rcases (h : tr_r_X3_cut 1 97 122 6 A u) with ⟨c, h⟩ | ⟨c, h⟩
  · rw [if_neg (by omega)]
    exact key 1 h
  · rw [if_pos (by omega)]
    exact key 4 h
theorem cutN {f : Nat → Int} {N s : Nat} {A u : St} (hT : ET f N A) (h1 : A 5 1 = (s : Int)) (h3 : A 5 3 = (s : Int)) (hs : s < N) (hl : isD (f s)) (h : r_X3_cut 2 48 57 4 A u) : u 5 6 = A 5 6 ∧ (s + 4 < nEnd f N s → u 5 2 = 4) ∧ (nEnd f N s ≤ s + 4 → u 5 2 = (if A 5 5 = (s : Int) then 4 else 2) ∧ u 5 1 = (nEnd f N s : Int) ∧ u 5 5 = (nEnd f N s : Int) ∧ u 5 4 = nm10 f s (nEnd f N s - s)) := by
  have key : ∀ z5 : Int, d_X3_cut_1 2 48 57 4 A u z5 → u 5 6 = A 5 6 ∧ (s + 4 < nEnd f N s → u 5 2 = 4) ∧ (nEnd f N s ≤ s + 4 → u 5 2 = z5 ∧ u 5 1 = (nEnd f N s : Int) ∧ u 5 5 = (nEnd f N s : Int) ∧ u 5 4 = nm10 f s (nEnd f N s - s)) := by
    intro z5 h
    obtain ⟨_, A8, hA8, A9, hA9, nn, h⟩ := (h : tr_d_X3_cut_1 2 48 57 4 A u z5)
    have e9 : A9 = stA (stA A9 5 4 (nm10 f s (s - s))) 5 1 (s : Int) := by
      rw [stA_self (stA A9 5 4 (nm10 f s (s - s))) 5 1 (s : Int) (by rw [hA9, hA8]; exact h1), stA_self A9 5 4 (nm10 f s (s - s)) (by rw [Nat.sub_self, hA9]; rfl)]
    rcases cut_loopN (A9 := A9) hT h3 (fun k => by rw [hA9, hA8]; rfl) nn s A9 e9 (Nat.le_refl _) (by omega) (by omega) (fun k hk => by omega) h with ⟨g1, g2, g3⟩ | ⟨g1, g2⟩
    · exact ⟨by rw [g3, hA9, hA8]; rfl, fun _ => g2, fun g => by have g1 : s + 4 < nEnd f N s := g1; omega⟩
    · have g2 : u = stA (stA (stA A9 5 4 (nm10 f s (nEnd f N s - s))) 5 1 (nEnd f N s : Int)) 5 5 (nEnd f N s : Int) := g2
      refine ⟨by rw [g2, hA9, hA8]; rfl, fun g => ?_, fun _ => ⟨by rw [g2, hA9, hA8]; rfl, by rw [g2]; rfl, by rw [g2]; rfl, by rw [g2]; rfl⟩⟩
      have g1 : nEnd f N s ≤ s + 4 := g1
      omega
  rcases (h : tr_r_X3_cut 2 48 57 4 A u) with ⟨c, h⟩ | ⟨c, h⟩
  · rw [if_neg (by omega)]
    exact key 2 h
  · rw [if_pos (by omega)]
    exact key 4 h
theorem look0 {f : Nat → Int} {N p : Nat} {B u : St} (hE : EK f N B) (h0 : LX0 f N p B) (h : q_X3_look B u) : EK f N u ∧ LX1 f N p u := by
  have hEu : EK f N u := hE.fr h.2.1 h.2.2.1 rfl rfl rfl rfl (fun _ => rfl) (fun _ => rfl)
  refine ⟨hEu, ?_⟩
  obtain ⟨b6, b1, hp, b5, b5'⟩ := h0
  have hs := sAt_le (f := f) hp
  have ha := adjS hp b5 b5'
  rcases (h.1 : tr_r_X3_look B u) with ⟨_, A3, hA3, nn, h⟩ | ⟨c, _⟩
  · obtain ⟨A5, hA5, hI5, h⟩ := look_loop (A3 := A3) hE (fun k => by rw [hA3]; rfl) nn p A3 (by rw [stA_self A3 5 1 _ (by rw [hA3]; exact b1)]) hp h
    have hA5 : A5 = stA A3 5 1 (sAt f N p : Int) := hA5
    obtain ⟨s, hsd⟩ : ∃ s, sAt f N p = s := ⟨_, rfl⟩
    rw [hsd] at hs ha hA5
    have a1 : A5 5 1 = (s : Int) := by rw [hA5]; rfl
    obtain ⟨A28, hA28, h⟩ := (h : tr_d_X3_look_3 B A5 u)
    rw [a1, hE.2.1] at h
    rw [a1] at hA28
    have c5 : A28 5 5 = B 5 5 := by rw [hA28, hA5, hA3]; rfl
    have c1 : A28 5 1 = (s : Int) := by rw [hA28, hA5]; rfl
    have c3 : A28 5 3 = (s : Int) := by rw [hA28]; rfl
    have c6 : A28 5 6 = 1 := by rw [hA28, hA5, hA3]; rfl
    have c2 : ∀ k, A28 2 k = B 2 k := fun k => by rw [hA28, hA5, hA3]; rfl
    have c4 : ∀ k, A28 4 k = B 4 k := fun k => by rw [hA28, hA5, hA3]; rfl
    have c11 : A28 1 1 = B 1 1 := by rw [hA28, hA5, hA3]; rfl
    rcases h with ⟨c, A32, hA32, hu⟩ | ⟨c, z37, hz, A38, hA38, h⟩
    · have hN : N ≤ s := by omega
      have tk : tKind f N p = 0 := by unfold tKind; rw [hsd, if_pos hN]
      have te : tEnd f N p = s := by unfold tEnd; rw [hsd, if_pos hN]
      unfold LX1 LV
      rw [tk, te]
      have u6 : u 5 6 = 1 := by rw [hu, hA32]; exact c6
      have u2 : u 5 2 = 0 := by rw [hu, hA32]; rfl
      have u1 : u 5 1 = (s : Int) := by rw [hu, hA32]; exact c1
      have u5 : u 5 5 = B 5 5 := by rw [hu, hA32]; exact c5
      refine ⟨u6, hp, u2, fun _ => ⟨u1, by omega, ?_⟩, fun g => absurd g (by decide), fun g => absurd g (by decide), fun g => absurd g (by decide)⟩
      rw [u5]
      exact ha
    · have hN : ¬ N ≤ s := by omega
      have hf : f s = z37 % 256 := by
        rw [hz, Int.toNat_natCast, c2]
        exact hE.2.2.2.1 s (by omega)
      have hr : -128 ≤ z37 ∧ z37 ≤ 127 := by rw [hz, c2]; exact irTPb hE.1
      have d1 : A38 5 1 = (s : Int) := by rw [hA38]; exact c1
      have d3 : A38 5 3 = (s : Int) := by rw [hA38]; exact c3
      have d5 : A38 5 5 = B 5 5 := by rw [hA38]; exact c5
      have d6 : A38 5 6 = 1 := by rw [hA38]; exact c6
      have hT : ET f N A38 := by
        refine ⟨by rw [hA38]; exact c11.trans hE.2.1, hE.2.2.1, fun k hk => ?_, fun k hk => ?_⟩
        · rw [hA38]
          exact (hE.2.2.2.1 k hk).trans (by show B 2 k % 256 = A28 2 k % 256; rw [c2])
        · rw [hA38]
          exact (c4 k).trans (hE.2.2.2.2 k hk)
      have sg : ¬ isL (f s) → ¬ isD (f s) → d_X3_look_5 A5 A38 u → LX1 f N p u := by
        intro n1 n2 h
        obtain ⟨A54, hA54, A57, hA57, hu⟩ := (h : tr_d_X3_look_5 A5 A38 u)
        have tk : tKind f N p = 3 := by unfold tKind; rw [hsd, if_neg hN, if_neg n1, if_neg n2]
        have te : tEnd f N p = s + 1 := by unfold tEnd; rw [hsd, if_neg hN, if_neg n1, if_neg n2]
        unfold LX1 LV
        rw [tk, te, hsd]
        have u6 : u 5 6 = 1 := by rw [hu, hA57, hA54]; exact d6
        have u2 : u 5 2 = 3 := by rw [hu, hA57, hA54]; rfl
        have u1 : u 5 1 = (s : Int) + 1 := by rw [hu, hA57, a1]; rfl
        have u5 : u 5 5 = B 5 5 := by rw [hu, hA57, hA54]; exact d5
        have u4 : u 5 4 = z37 := by rw [hu, hA57, hA54, hA38]; rfl
        refine ⟨u6, hp, u2, fun _ => ⟨by rw [u1]; omega, by omega, ⟨fun g => by omega, fun g => ?_⟩, by omega⟩, fun g => absurd g (by decide), fun g => absurd g (by decide), fun _ => ⟨by rw [u4, hf], by omega, by omega⟩⟩
        have g2 := g.2
        rw [show s + 1 - 1 = s by omega] at g2
        exact absurd g2 (by rintro (g | g); exact n1 g; exact n2 g)
      have dg : ¬ isL (f s) → isD (f s) → (∃ A50 : St, q_X3_cut 2 48 57 4 A38 A50 ∧ u = A50) → LX1 f N p u := by
        rintro n1 n2 ⟨A50, h, rfl⟩
        have hc := cutN hT d1 d3 (by omega) n2 h.1
        rw [d6, d5] at hc
        have hn := nEnd_le (N := N) (show s < N by omega) n2
        have te : tEnd f N p = nEnd f N s := by unfold tEnd; rw [hsd, if_neg hN, if_neg n1, if_pos n2]
        by_cases g : adj f s ∨ s + 4 < nEnd f N s
        · have tk : tKind f N p = 4 := by unfold tKind; rw [hsd, if_neg hN, if_neg n1, if_pos n2, if_pos g]
          have u2 : u 5 2 = 4 := by
            by_cases g2 : s + 4 < nEnd f N s
            · exact hc.2.1 g2
            · have g3 := (hc.2.2 (by omega)).1
              rw [if_pos (ha.1.mpr (by rcases g with g | g; exact g; exact absurd g g2))] at g3
              exact g3
          unfold LX1 LV
          rw [tk]
          exact ⟨hc.1, hp, u2, fun g => absurd rfl g, fun g => absurd g (by decide), fun g => absurd g (by decide), fun g => absurd g (by decide)⟩
        · have tk : tKind f N p = 2 := by unfold tKind; rw [hsd, if_neg hN, if_neg n1, if_pos n2, if_neg g]
          have g3 := hc.2.2 (by omega)
          rw [if_neg (fun e => g (Or.inl (ha.1.mp e)))] at g3
          unfold LX1 LV
          rw [tk, te, hsd]
          refine ⟨hc.1, hp, g3.1, fun _ => ⟨g3.2.1, hn.2.1, ⟨fun _ => ⟨by omega, Or.inr (hn.2.2 _ (by omega) (by omega))⟩, fun _ => g3.2.2.1⟩, by rw [g3.2.2.1]; omega⟩, fun g => absurd g (by decide), fun _ => g3.2.2.2, fun g => absurd g (by decide)⟩
      have lt : isL (f s) → (∃ A43 : St, q_X3_cut 1 97 122 6 A38 A43 ∧ u = A43) → LX1 f N p u := by
        rintro n1 ⟨A43, h, rfl⟩
        have hc := cutW hT d1 d3 (by omega) n1 h.1
        rw [d6, d5] at hc
        have hn := wEnd_le (N := N) (show s < N by omega) n1
        have te : tEnd f N p = wEnd f N s := by unfold tEnd; rw [hsd, if_neg hN, if_pos n1]
        by_cases g : adj f s ∨ s + 6 < wEnd f N s
        · have tk : tKind f N p = 4 := by unfold tKind; rw [hsd, if_neg hN, if_pos n1, if_pos g]
          have u2 : u 5 2 = 4 := by
            by_cases g2 : s + 6 < wEnd f N s
            · exact hc.2.1 g2
            · have g3 := (hc.2.2 (by omega)).1
              rw [if_pos (ha.1.mpr (by rcases g with g | g; exact g; exact absurd g g2))] at g3
              exact g3
          unfold LX1 LV
          rw [tk]
          exact ⟨hc.1, hp, u2, fun g => absurd rfl g, fun g => absurd g (by decide), fun g => absurd g (by decide), fun g => absurd g (by decide)⟩
        · have tk : tKind f N p = 1 := by unfold tKind; rw [hsd, if_neg hN, if_pos n1, if_neg g]
          have g3 := hc.2.2 (by omega)
          rw [if_neg (fun e => g (Or.inl (ha.1.mp e)))] at g3
          unfold LX1 LV
          rw [tk, te, hsd]
          refine ⟨hc.1, hp, g3.1, fun _ => ⟨g3.2.1, hn.2.1, ⟨fun _ => ⟨by omega, Or.inl (hn.2.2 _ (by omega) (by omega))⟩, fun _ => g3.2.2.1⟩, by rw [g3.2.2.1]; omega⟩, fun _ => g3.2.2.2, fun g => absurd g (by decide), fun g => absurd g (by decide)⟩
      have d4 : ¬ isL (f s) → d_X3_look_4 z37 A5 A38 u → LX1 f N p u := by
        intro n1 h
        rcases (h : tr_d_X3_look_4 z37 A5 A38 u) with ⟨c2, h⟩ | ⟨c2, h⟩
        · exact sg n1 (by omega) h
        · rcases h with ⟨c3, h⟩ | ⟨c3, h⟩
          · exact sg n1 (by omega) h
          · exact dg n1 (by omega) h
      rcases h with ⟨c2, h⟩ | ⟨c2, h⟩
      · exact d4 (by omega) h
      · rcases h with ⟨c3, h⟩ | ⟨c3, h⟩
        · exact d4 (by omega) h
        · exact lt (by omega) h
  · exact absurd b6 c
theorem look1 {f : Nat → Int} {N p : Nat} {B u : St} (h1 : LX1 f N p B) (h : q_X3_look B u) : u = B := by
  rcases (h.1 : tr_r_X3_look B u) with ⟨c, _⟩ | ⟨_, h⟩
  · have := h1.1
    omega
  · exact h
theorem lookA {f : Nat → Int} {N p : Nat} {B u : St} (hE : EK f N B) (h0 : LXA f N p B) (h : q_X3_look B u) : EK f N u ∧ LX1 f N p u := by
  rcases h0 with h0 | h0
  · exact look0 hE h0 h
  · have e := look1 h0 h
    rw [e]
    exact ⟨hE, h0⟩
theorem passX {f : Nat → Int} {N p : Nat} {B u : St} (hE : EK f N B) (h1 : LX1 f N p B) (hk : tKind f N p ≠ 4) (h : q_X3_pass B u) : EK f N u ∧ LX0 f N (tEnd f N p) u ∧ u 5 4 = B 5 4 := by
  refine ⟨hE.fr h.2.1 h.2.2.1 rfl rfl rfl rfl (fun _ => rfl) (fun _ => rfl), ?_, h.2.2.1 5 4 rfl rfl⟩
  obtain ⟨A1, hA1, hu⟩ := (h.1 : tr_r_X3_pass B u)
  obtain ⟨_, hp, _, g, _⟩ := h1
  have g := g hk
  exact ⟨by rw [hu, hA1]; rfl, by rw [hu, hA1]; exact g.1, g.2.1, by rw [hu, hA1]; exact g.2.2.1, by rw [hu, hA1]; exact g.2.2.2⟩
/-! The class's reader of names, numbers, words and signs. -/
def wv (f : Nat → Int) (N p : Nat) : Int := w5 f (sAt f N p) (tEnd f N p - sAt f N p)
def nv (f : Nat → Int) (N p : Nat) : Int := nm10 f (sAt f N p) (tEnd f N p - sAt f N p)
def isOwn5 (w : Int) : Bool := own5L.contains w
def sName (f : Nat → Int) (N p : Nat) : Option (Int × Nat) := if tKind f N p = 1 ∧ isOwn5 (wv f N p) = false then some (wv f N p, tEnd f N p) else none
def sNum (f : Nat → Int) (N : Nat) (lo hi : Int) (p : Nat) : Option (Int × Nat) := if tKind f N p = 2 ∧ lo ≤ nv f N p ∧ nv f N p ≤ hi then some (nv f N p, tEnd f N p) else none
def sOwn (f : Nat → Int) (N k p : Nat) : Option Nat := if tKind f N p = 1 ∧ wv f N p = own5 k then some (tEnd f N p) else none
def sSign (f : Nat → Int) (N : Nat) (c : Int) (p : Nat) : Option Nat := if tKind f N p = 3 ∧ f (sAt f N p) = c then some (tEnd f N p) else none
def fnd (g : Nat → Int) (w : Int) : Nat → Nat → Int
  | 0, _ => -1
  | k + 1, i => if g i = w then (i : Int) else fnd g w k (i + 1)
def sFind (T : St) (kind : Nat) (w : Int) : Int := fnd (T (3 + kind)) w (T 1 kind).toNat 0
def tw (ta : Nat) (B : St) : St := fun j k => B (ta + j) k
theorem tw_fk {ta : Nat} (hta : isT ta) {F : List (Nat × Nat)} {B u : St} (h : fk [] F B u) (hF : F.all (fun x => decide (x.1 < 51)) = true) : tw ta u = tw ta B := by
  funext j k
  refine h (ta + j) k rfl ?_
  cases hc : fin2 F (ta + j) k with
  | false => rfl
  | true =>
    have h1 := List.all_eq_true.mp hF _ (fin2_iff.mp hc)
    have h2 : ta + j < 51 := of_decide_eq_true h1
    rcases hta with rfl | rfl <;> omega
theorem fnd_loop {g : Nat → Int} {w z c : Int} (D : Nat → Int → Prop) (h0 : ∀ i, ¬ D 0 i) (hs : ∀ n i, D (n + 1) i → (c ≤ i ∧ z = -1) ∨ (¬ c ≤ i ∧ ((¬ g i.toNat = w ∧ D n (i + 1)) ∨ (g i.toNat = w ∧ z = i)))) : ∀ n (i : Nat), D n (i : Int) → z = fnd g w (c.toNat - i) i := by
  intro n
  induction n with
  | zero => intro i h; exact absurd h (h0 _)
  | succ n ih =>
    intro i h
    rcases hs n i h with ⟨c1, h⟩ | ⟨c1, h⟩
    · rw [show c.toNat - i = 0 by omega]
      exact h
    · obtain ⟨k, hk⟩ : ∃ k, c.toNat - i = k + 1 := ⟨c.toNat - i - 1, by omega⟩
      rw [hk]
      unfold fnd
      rcases h with ⟨c2, h⟩ | ⟨c2, h⟩
      · rw [Int.toNat_natCast] at c2
        rw [if_neg c2]
        have := ih (i + 1) h
        rw [show c.toNat - (i + 1) = k by omega] at this
        exact this
      · rw [Int.toNat_natCast] at c2
        rw [if_pos c2]
        exact h
theorem F_0 {ta : Nat} {x2 : Int} {A : St} {z : Int} (h : r_X9_find_1_0 ta x2 A z) : z = sFind (tw ta A) 0 x2 := by
  obtain ⟨nn, h⟩ := (h : tr_r_X9_find_1_0 ta x2 A z)
  refine fnd_loop (c := A (ta + 1) 0) (g := A (ta + (3 + 0))) (d_X9_find_1_0_1 ta x2 A z) (fun _ h => h) (fun n i h => ?_) nn 0 h
  obtain ⟨_, z10, rfl, h⟩ := (h : tr_d_X9_find_1_0_1 ta x2 A z (fun z3 => d_X9_find_1_0_1 ta x2 A z n z3) i)
  rcases h with h | ⟨c, z13, rfl, h⟩
  · exact Or.inl h
  · exact Or.inr ⟨c, h⟩
theorem F_1 {ta : Nat} {x2 : Int} {A : St} {z : Int} (h : r_X9_find_1_1 ta x2 A z) : z = sFind (tw ta A) 1 x2 := by
  obtain ⟨nn, h⟩ := (h : tr_r_X9_find_1_1 ta x2 A z)
  refine fnd_loop (c := A (ta + 1) 1) (g := A (ta + (3 + 1))) (d_X9_find_1_1_1 ta x2 A z) (fun _ h => h) (fun n i h => ?_) nn 0 h
  obtain ⟨_, z10, rfl, h⟩ := (h : tr_d_X9_find_1_1_1 ta x2 A z (fun z3 => d_X9_find_1_1_1 ta x2 A z n z3) i)
  rcases h with h | ⟨c, z13, rfl, h⟩
  · exact Or.inl h
  · exact Or.inr ⟨c, h⟩
theorem F_2 {ta : Nat} {x2 : Int} {A : St} {z : Int} (h : r_X9_find_1_2 ta x2 A z) : z = sFind (tw ta A) 2 x2 := by
  obtain ⟨nn, h⟩ := (h : tr_r_X9_find_1_2 ta x2 A z)
  refine fnd_loop (c := A (ta + 1) 2) (g := A (ta + (3 + 2))) (d_X9_find_1_2_1 ta x2 A z) (fun _ h => h) (fun n i h => ?_) nn 0 h
  obtain ⟨_, z10, rfl, h⟩ := (h : tr_d_X9_find_1_2_1 ta x2 A z (fun z3 => d_X9_find_1_2_1 ta x2 A z n z3) i)
  rcases h with h | ⟨c, z13, rfl, h⟩
  · exact Or.inl h
  · exact Or.inr ⟨c, h⟩
theorem F_3 {ta : Nat} {x2 : Int} {A : St} {z : Int} (h : r_X9_find_1_3 ta x2 A z) : z = sFind (tw ta A) 3 x2 := by
  obtain ⟨nn, h⟩ := (h : tr_r_X9_find_1_3 ta x2 A z)
  refine fnd_loop (c := A (ta + 1) 3) (g := A (ta + (3 + 3))) (d_X9_find_1_3_1 ta x2 A z) (fun _ h => h) (fun n i h => ?_) nn 0 h
  obtain ⟨_, z10, rfl, h⟩ := (h : tr_d_X9_find_1_3_1 ta x2 A z (fun z3 => d_X9_find_1_3_1 ta x2 A z n z3) i)
  rcases h with h | ⟨c, z13, rfl, h⟩
  · exact Or.inl h
  · exact Or.inr ⟨c, h⟩
theorem F_4 {ta : Nat} {x2 : Int} {A : St} {z : Int} (h : r_X9_find_1_4 ta x2 A z) : z = sFind (tw ta A) 4 x2 := by
  obtain ⟨nn, h⟩ := (h : tr_r_X9_find_1_4 ta x2 A z)
  refine fnd_loop (c := A (ta + 1) 4) (g := A (ta + (3 + 4))) (d_X9_find_1_4_1 ta x2 A z) (fun _ h => h) (fun n i h => ?_) nn 0 h
  obtain ⟨_, z10, rfl, h⟩ := (h : tr_d_X9_find_1_4_1 ta x2 A z (fun z3 => d_X9_find_1_4_1 ta x2 A z n z3) i)
  rcases h with h | ⟨c, z13, rfl, h⟩
  · exact Or.inl h
  · exact Or.inr ⟨c, h⟩
theorem F_x {ta : Nat} {x1 x2 : Int} {A : St} {z : Int} (hx : 0 ≤ x1 ∧ x1 < 5) (h : r_X9_find ta x1 x2 A z) : z = sFind (tw ta A) x1.toNat x2 := by
  rcases (h : tr_r_X9_find ta x1 x2 A z) with ⟨c, _⟩ | ⟨_, h⟩
  · omega
  · rcases h with ⟨_, nn, h⟩ | ⟨c, _⟩
    · refine fnd_loop (c := A (ta + 1) x1.toNat) (g := A (ta + (3 + x1.toNat))) (d_X9_find_1 ta x1 x2 A z) (fun _ h => h) (fun n i h => ?_) nn 0 h
      obtain ⟨_, z10, rfl, h⟩ := (h : tr_d_X9_find_1 ta x1 x2 A z (fun z3 => d_X9_find_1 ta x1 x2 A z n z3) i)
      rcases h with h | ⟨c, z13, rfl, h⟩
      · exact Or.inl h
      · rw [Nat.add_assoc] at h
        exact Or.inr ⟨c, h⟩
    · omega
theorem isOwn5_iff {w : Int} : isOwn5 w = true ↔ ∃ k, k < 26 ∧ own5 k = w := by
  unfold isOwn5
  rw [List.contains_iff_mem, List.mem_iff_getElem]
  constructor
  · rintro ⟨k, hk, e⟩
    refine ⟨k, hk, ?_⟩
    unfold own5
    rw [List.getD_eq_getElem?_getD, List.getElem?_eq_getElem hk, e]
    rfl
  · rintro ⟨k, hk, e⟩
    have hk : k < own5L.length := hk
    refine ⟨k, hk, ?_⟩
    unfold own5 at e
    rw [List.getD_eq_getElem?_getD, List.getElem?_eq_getElem hk] at e
    exact e
theorem C_isNameAhead {f : Nat → Int} {N p : Nat} {B u : St} {z : Int} (hE : EK f N B) (hX : LXA f N p B) (h : q_X5_isNameAhead B z u) : EK f N u ∧ LX1 f N p u ∧ ((z = 1 ∧ sName f N p = some (wv f N p, tEnd f N p) ∧ tKind f N p = 1 ∧ u 5 4 = wv f N p) ∨ (z = 0 ∧ sName f N p = none)) := by
  obtain ⟨A1, hq, h⟩ := (h.1 : tr_r_X5_isNameAhead B z u)
  obtain ⟨hE1, hX1⟩ := lookA hE hX hq
  have k2 := hX1.2.2.1
  rcases h with ⟨c, nn, h⟩ | ⟨c, hz, hu⟩
  · have tk : tKind f N p = 1 := by omega
    have hv : A1 5 4 = wv f N p := hX1.2.2.2.2.1 tk
    have lp : ∀ n (i : Nat), i ≤ 26 → (∀ k, k < i → own5 k ≠ wv f N p) → d_X5_isNameAhead_1 A1 z u n (i : Int) → u = A1 ∧ ((z = 1 ∧ isOwn5 (wv f N p) = false) ∨ (z = 0 ∧ isOwn5 (wv f N p) = true)) := by
      intro n
      induction n with
      | zero => intro i _ _ h; exact h.elim
      | succ n ih =>
        intro i hi hn h
        obtain ⟨_, h⟩ := (h : tr_d_X5_isNameAhead_1 A1 z u (fun z6 => d_X5_isNameAhead_1 A1 z u n z6) i)
        rcases h with ⟨c1, hz, hu⟩ | ⟨c1, z15, hz15, h⟩
        · refine ⟨hu, Or.inl ⟨hz, ?_⟩⟩
          cases ho : isOwn5 (wv f N p) with
          | false => rfl
          | true =>
            obtain ⟨k, hk, e⟩ := isOwn5_iff.mp ho
            exact absurd e (hn k (by omega))
        · have e15 : z15 = own5 i := by
            rw [hz15, Int.toNat_natCast]
            exact hE1.2.2.2.2 i (by omega)
          rw [e15, hv] at h
          rcases h with ⟨c2, h⟩ | ⟨c2, hz, hu⟩
          · refine ih (i + 1) (by omega) (fun k hk => ?_) h
            by_cases e : k = i
            · rw [e]
              exact fun e2 => c2 e2.symm
            · exact hn k (by omega)
          · exact ⟨hu, Or.inr ⟨hz, isOwn5_iff.mpr ⟨i, by omega, c2.symm⟩⟩⟩
    obtain ⟨hu, h⟩ := lp nn 0 (by omega) (fun k hk => absurd hk (by omega)) h
    rw [hu]
    refine ⟨hE1, hX1, ?_⟩
    unfold sName
    rcases h with ⟨hz, ho⟩ | ⟨hz, ho⟩
    · rw [if_pos ⟨tk, ho⟩]
      exact Or.inl ⟨hz, rfl, tk, hv⟩
    · rw [if_neg (fun g => by rw [ho] at g; exact absurd g.2 (by decide))]
      exact Or.inr ⟨hz, rfl⟩
  · rw [hu]
    refine ⟨hE1, hX1, Or.inr ⟨hz, ?_⟩⟩
    unfold sName
    rw [if_neg (fun g => c (by omega))]
/-- what is the same behind a reader that takes nothing but tokens -/
def CS (f : Nat → Int) (N e : Nat) (u : St) : Prop := EK f N u ∧ LX0 f N e u
theorem C_none {x : Int} {B u : St} {z : Int} (h : q_X5_none x B z u) : z = -1 := h.2.2.2
def sNew (f : Nat → Int) (N : Nat) (T : St) (p : Nat) : Option (Int × Nat) := match sName f N p with
  | none => none
  | some (w, e) => if sFind T 0 w = -1 ∧ sFind T 1 w = -1 ∧ sFind T 2 w = -1 ∧ sFind T 3 w = -1 ∧ sFind T 4 w = -1 then some (w, e) else none
def sAsk (f : Nat → Int) (N : Nat) (T : St) (kind p : Nat) : Option (Int × Nat) := match sName f N p with
  | none => none
  | some (w, e) => if sFind T kind w = -1 then none else some (sFind T kind w, e)
def sSpot (f : Nat → Int) (N : Nat) (T : St) (p : Nat) : Option (Int × Nat) := match sName f N p with
  | none => none
  | some (w, e) => if sFind T 0 w ≠ -1 then some (sFind T 0 w + 10, e) else if sFind T 1 w ≠ -1 ∧ T 10 (sFind T 1 w).toNat = 0 then some (sFind T 1 w + 20, e) else none
/-- an answer that is a number or none, over tokens alone -/
def CR (f : Nat → Int) (N ta : Nat) (B : St) (r : Option (Int × Nat)) (z : Int) (u : St) : Prop := match r with
  | none => z = -1
  | some (v, e) => z = v ∧ z ≠ -1 ∧ CS f N e u ∧ tw ta u = tw ta B
theorem C_asked_0 {f : Nat → Int} {N p ta : Nat} (hta : isT ta) {B u : St} {z : Int} (hE : EK f N B) (hX : LXA f N p B) (h : q_X5_asked_2_0 ta B z u) : CR f N ta B (sAsk f N (tw ta B) 0 p) z u := by
  have ht : tw ta u = tw ta B := tw_fk hta h.2.2.1 rfl
  obtain ⟨z1, A2, hq, h⟩ := (h.1 : tr_r_X5_asked_2_0 ta B z u)
  obtain ⟨hE2, hX2, hn⟩ := C_isNameAhead hE hX hq
  unfold CR sAsk
  rcases h with ⟨c, A6, hp, z11, hf, h⟩ | ⟨c, z19, A20, hb, hz, hu⟩
  · rcases hn with ⟨_, hn, tk, hv⟩ | ⟨hz, _⟩
    · rw [hn]
      have hP := passX hE2 hX2 (by omega) hp
      have e6 : tw ta A6 = tw ta B := (tw_fk hta hp.2.2.1 rfl).trans (tw_fk hta hq.2.2.1 rfl)
      have e : z11 = sFind (tw ta B) 0 (wv f N p) := by rw [F_0 hf.1, hv, e6]
      show match (if sFind (tw ta B) 0 (wv f N p) = -1 then none else some (sFind (tw ta B) 0 (wv f N p), tEnd f N p)) with
        | none => z = -1
        | some (v, e) => z = v ∧ z ≠ -1 ∧ CS f N e u ∧ tw ta u = tw ta B
      rw [← e]
      rcases h with ⟨c, hz, hu⟩ | ⟨c, z15, A16, hb, hz, hu⟩
      · rw [if_neg c]
        exact ⟨hz, by omega, by rw [hu]; exact ⟨hP.1, hP.2.1⟩, ht⟩
      · rw [if_pos c]
        exact hz.trans (C_none hb)
    · exact absurd hz c
  · rcases hn with ⟨hz1, _⟩ | ⟨_, hn⟩
    · omega
    · rw [hn]
      exact hz.trans (C_none hb)
theorem C_asked_1 {f : Nat → Int} {N p ta : Nat} (hta : isT ta) {B u : St} {z : Int} (hE : EK f N B) (hX : LXA f N p B) (h : q_X5_asked_2_1 ta B z u) : CR f N ta B (sAsk f N (tw ta B) 1 p) z u := by
  have ht : tw ta u = tw ta B := tw_fk hta h.2.2.1 rfl
  obtain ⟨z1, A2, hq, h⟩ := (h.1 : tr_r_X5_asked_2_1 ta B z u)
  obtain ⟨hE2, hX2, hn⟩ := C_isNameAhead hE hX hq
  unfold CR sAsk
  rcases h with ⟨c, A6, hp, z11, hf, h⟩ | ⟨c, z19, A20, hb, hz, hu⟩
  · rcases hn with ⟨_, hn, tk, hv⟩ | ⟨hz, _⟩
    · rw [hn]
      have hP := passX hE2 hX2 (by omega) hp
      have e6 : tw ta A6 = tw ta B := (tw_fk hta hp.2.2.1 rfl).trans (tw_fk hta hq.2.2.1 rfl)
      have e : z11 = sFind (tw ta B) 1 (wv f N p) := by rw [F_1 hf.1, hv, e6]
      show match (if sFind (tw ta B) 1 (wv f N p) = -1 then none else some (sFind (tw ta B) 1 (wv f N p), tEnd f N p)) with
        | none => z = -1
        | some (v, e) => z = v ∧ z ≠ -1 ∧ CS f N e u ∧ tw ta u = tw ta B
      rw [← e]
      rcases h with ⟨c, hz, hu⟩ | ⟨c, z15, A16, hb, hz, hu⟩
      · rw [if_neg c]
        exact ⟨hz, by omega, by rw [hu]; exact ⟨hP.1, hP.2.1⟩, ht⟩
      · rw [if_pos c]
        exact hz.trans (C_none hb)
    · exact absurd hz c
  · rcases hn with ⟨hz1, _⟩ | ⟨_, hn⟩
    · omega
    · rw [hn]
      exact hz.trans (C_none hb)
theorem C_asked_2 {f : Nat → Int} {N p ta : Nat} (hta : isT ta) {B u : St} {z : Int} (hE : EK f N B) (hX : LXA f N p B) (h : q_X5_asked_2_2 ta B z u) : CR f N ta B (sAsk f N (tw ta B) 2 p) z u := by
  have ht : tw ta u = tw ta B := tw_fk hta h.2.2.1 rfl
  obtain ⟨z1, A2, hq, h⟩ := (h.1 : tr_r_X5_asked_2_2 ta B z u)
  obtain ⟨hE2, hX2, hn⟩ := C_isNameAhead hE hX hq
  unfold CR sAsk
  rcases h with ⟨c, A6, hp, z11, hf, h⟩ | ⟨c, z19, A20, hb, hz, hu⟩
  · rcases hn with ⟨_, hn, tk, hv⟩ | ⟨hz, _⟩
    · rw [hn]
      have hP := passX hE2 hX2 (by omega) hp
      have e6 : tw ta A6 = tw ta B := (tw_fk hta hp.2.2.1 rfl).trans (tw_fk hta hq.2.2.1 rfl)
      have e : z11 = sFind (tw ta B) 2 (wv f N p) := by rw [F_2 hf.1, hv, e6]
      show match (if sFind (tw ta B) 2 (wv f N p) = -1 then none else some (sFind (tw ta B) 2 (wv f N p), tEnd f N p)) with
        | none => z = -1
        | some (v, e) => z = v ∧ z ≠ -1 ∧ CS f N e u ∧ tw ta u = tw ta B
      rw [← e]
      rcases h with ⟨c, hz, hu⟩ | ⟨c, z15, A16, hb, hz, hu⟩
      · rw [if_neg c]
        exact ⟨hz, by omega, by rw [hu]; exact ⟨hP.1, hP.2.1⟩, ht⟩
      · rw [if_pos c]
        exact hz.trans (C_none hb)
    · exact absurd hz c
  · rcases hn with ⟨hz1, _⟩ | ⟨_, hn⟩
    · omega
    · rw [hn]
      exact hz.trans (C_none hb)
theorem C_asked_3 {f : Nat → Int} {N p ta : Nat} (hta : isT ta) {B u : St} {z : Int} (hE : EK f N B) (hX : LXA f N p B) (h : q_X5_asked_2_3 ta B z u) : CR f N ta B (sAsk f N (tw ta B) 3 p) z u := by
  have ht : tw ta u = tw ta B := tw_fk hta h.2.2.1 rfl
  obtain ⟨z1, A2, hq, h⟩ := (h.1 : tr_r_X5_asked_2_3 ta B z u)
  obtain ⟨hE2, hX2, hn⟩ := C_isNameAhead hE hX hq
  unfold CR sAsk
  rcases h with ⟨c, A6, hp, z11, hf, h⟩ | ⟨c, z19, A20, hb, hz, hu⟩
  · rcases hn with ⟨_, hn, tk, hv⟩ | ⟨hz, _⟩
    · rw [hn]
      have hP := passX hE2 hX2 (by omega) hp
      have e6 : tw ta A6 = tw ta B := (tw_fk hta hp.2.2.1 rfl).trans (tw_fk hta hq.2.2.1 rfl)
      have e : z11 = sFind (tw ta B) 3 (wv f N p) := by rw [F_3 hf.1, hv, e6]
      show match (if sFind (tw ta B) 3 (wv f N p) = -1 then none else some (sFind (tw ta B) 3 (wv f N p), tEnd f N p)) with
        | none => z = -1
        | some (v, e) => z = v ∧ z ≠ -1 ∧ CS f N e u ∧ tw ta u = tw ta B
      rw [← e]
      rcases h with ⟨c, hz, hu⟩ | ⟨c, z15, A16, hb, hz, hu⟩
      · rw [if_neg c]
        exact ⟨hz, by omega, by rw [hu]; exact ⟨hP.1, hP.2.1⟩, ht⟩
      · rw [if_pos c]
        exact hz.trans (C_none hb)
    · exact absurd hz c
  · rcases hn with ⟨hz1, _⟩ | ⟨_, hn⟩
    · omega
    · rw [hn]
      exact hz.trans (C_none hb)
theorem C_asked_4 {f : Nat → Int} {N p ta : Nat} (hta : isT ta) {B u : St} {z : Int} (hE : EK f N B) (hX : LXA f N p B) (h : q_X5_asked_2_4 ta B z u) : CR f N ta B (sAsk f N (tw ta B) 4 p) z u := by
  have ht : tw ta u = tw ta B := tw_fk hta h.2.2.1 rfl
  obtain ⟨z1, A2, hq, h⟩ := (h.1 : tr_r_X5_asked_2_4 ta B z u)
  obtain ⟨hE2, hX2, hn⟩ := C_isNameAhead hE hX hq
  unfold CR sAsk
  rcases h with ⟨c, A6, hp, z11, hf, h⟩ | ⟨c, z19, A20, hb, hz, hu⟩
  · rcases hn with ⟨_, hn, tk, hv⟩ | ⟨hz, _⟩
    · rw [hn]
      have hP := passX hE2 hX2 (by omega) hp
      have e6 : tw ta A6 = tw ta B := (tw_fk hta hp.2.2.1 rfl).trans (tw_fk hta hq.2.2.1 rfl)
      have e : z11 = sFind (tw ta B) 4 (wv f N p) := by rw [F_4 hf.1, hv, e6]
      show match (if sFind (tw ta B) 4 (wv f N p) = -1 then none else some (sFind (tw ta B) 4 (wv f N p), tEnd f N p)) with
        | none => z = -1
        | some (v, e) => z = v ∧ z ≠ -1 ∧ CS f N e u ∧ tw ta u = tw ta B
      rw [← e]
      rcases h with ⟨c, hz, hu⟩ | ⟨c, z15, A16, hb, hz, hu⟩
      · rw [if_neg c]
        exact ⟨hz, by omega, by rw [hu]; exact ⟨hP.1, hP.2.1⟩, ht⟩
      · rw [if_pos c]
        exact hz.trans (C_none hb)
    · exact absurd hz c
  · rcases hn with ⟨hz1, _⟩ | ⟨_, hn⟩
    · omega
    · rw [hn]
      exact hz.trans (C_none hb)
theorem tk1 {f : Nat → Int} {N p : Nat} (h : tKind f N p = 1) : sAt f N p < N ∧ isL (f (sAt f N p)) ∧ tEnd f N p = wEnd f N (sAt f N p) ∧ wEnd f N (sAt f N p) ≤ sAt f N p + 6 ∧ ¬ adj f (sAt f N p) := by
  unfold tKind at h
  unfold tEnd
  by_cases h1 : N ≤ sAt f N p
  · rw [if_pos h1] at h; exact absurd h (by decide)
  · rw [if_neg h1] at h ⊢
    by_cases h2 : isL (f (sAt f N p))
    · rw [if_pos h2] at h ⊢
      by_cases h3 : adj f (sAt f N p) ∨ sAt f N p + 6 < wEnd f N (sAt f N p)
      · rw [if_pos h3] at h; exact absurd h (by decide)
      · exact ⟨by omega, h2, rfl, by omega, fun g => h3 (Or.inl g)⟩
    · rw [if_neg h2] at h
      by_cases h3 : isD (f (sAt f N p))
      · rw [if_pos h3] at h
        split at h <;> exact absurd h (by decide)
      · rw [if_neg h3] at h; exact absurd h (by decide)
theorem tk2 {f : Nat → Int} {N p : Nat} (h : tKind f N p = 2) : sAt f N p < N ∧ isD (f (sAt f N p)) ∧ tEnd f N p = nEnd f N (sAt f N p) ∧ nEnd f N (sAt f N p) ≤ sAt f N p + 4 ∧ ¬ adj f (sAt f N p) := by
  unfold tKind at h
  unfold tEnd
  by_cases h1 : N ≤ sAt f N p
  · rw [if_pos h1] at h; exact absurd h (by decide)
  · rw [if_neg h1] at h ⊢
    by_cases h2 : isL (f (sAt f N p))
    · rw [if_pos h2] at h
      split at h <;> exact absurd h (by decide)
    · rw [if_neg h2] at h ⊢
      by_cases h3 : isD (f (sAt f N p))
      · rw [if_pos h3] at h ⊢
        by_cases h4 : adj f (sAt f N p) ∨ sAt f N p + 4 < nEnd f N (sAt f N p)
        · rw [if_pos h4] at h; exact absurd h (by decide)
        · exact ⟨by omega, h3, rfl, by omega, fun g => h4 (Or.inl g)⟩
      · rw [if_neg h3] at h; exact absurd h (by decide)
theorem wv_b {f : Nat → Int} {N p : Nat} (h : tKind f N p = 1) : 0 ≤ wv f N p ∧ wv f N p < 1073741824 := by
  obtain ⟨h1, h2, h3, h4, _⟩ := tk1 h
  have h5 := wEnd_le h1 h2
  unfold wv
  rw [h3]
  have b := w5_lt (f := f) (s := sAt f N p) (wEnd f N (sAt f N p) - sAt f N p) (fun k hk => h5.2.2 _ (by omega) (by omega))
  have h6 : (32 : Nat) ^ (wEnd f N (sAt f N p) - sAt f N p) ≤ 32 ^ 6 := Nat.pow_le_pow_right (by decide) (by omega)
  have h7 : ((32 ^ (wEnd f N (sAt f N p) - sAt f N p) : Nat) : Int) = 32 ^ (wEnd f N (sAt f N p) - sAt f N p) := by simp
  have h8 : (32 : Nat) ^ 6 = 1073741824 := by decide
  omega
theorem nv_b {f : Nat → Int} {N p : Nat} (h : tKind f N p = 2) : 0 ≤ nv f N p ∧ nv f N p ≤ 9999 := by
  obtain ⟨h1, h2, h3, h4, _⟩ := tk2 h
  have h5 := nEnd_le h1 h2
  unfold nv
  rw [h3]
  exact nm10_4 (fun k hk => h5.2.2 _ (by omega) (by omega)) (by omega)
theorem C_newName {f : Nat → Int} {N p ta : Nat} (hta : isT ta) {B u : St} {z : Int} (hE : EK f N B) (hX : LXA f N p B) (h : q_X5_newName ta B z u) : CR f N ta B (sNew f N (tw ta B) p) z u := by
  have ht : tw ta u = tw ta B := tw_fk hta h.2.2.1 rfl
  obtain ⟨z1, A2, hq, h⟩ := (h.1 : tr_r_X5_newName ta B z u)
  obtain ⟨hE2, hX2, hn⟩ := C_isNameAhead hE hX hq
  unfold CR sNew
  rcases h with ⟨c, A6, hp, nn, h⟩ | ⟨c, z19, A20, hb, hz, hu⟩
  · rcases hn with ⟨_, hn, tk, hv⟩ | ⟨hz, _⟩
    · rw [hn]
      have hP := passX hE2 hX2 (by omega) hp
      have e6 : tw ta A6 = tw ta B := (tw_fk hta hp.2.2.1 rfl).trans (tw_fk hta hq.2.2.1 rfl)
      have hb := wv_b tk
      have lp : ∀ n (i : Nat), i ≤ 5 → (∀ k, k < i → sFind (tw ta B) k (wv f N p) = -1) → d_X5_newName_1 ta A2 A6 z u n (i : Int) → (z = -1 ∧ ∃ k, k < 5 ∧ sFind (tw ta B) k (wv f N p) ≠ -1) ∨ (z = wv f N p ∧ u = A6 ∧ ∀ k, k < 5 → sFind (tw ta B) k (wv f N p) = -1) := by
        intro n
        induction n with
        | zero => intro i _ _ h; exact h.elim
        | succ n ih =>
          intro i hi hk h
          obtain ⟨_, h⟩ := (h : tr_d_X5_newName_1 ta A2 A6 z u (fun z9 => d_X5_newName_1 ta A2 A6 z u n z9) i)
          rcases h with ⟨c1, hz, hu⟩ | ⟨c1, z20, hf, h⟩
          · exact Or.inr ⟨hz.trans hv, hu, fun k hk2 => hk k (by omega)⟩
          · have e : z20 = sFind (tw ta B) i (wv f N p) := by rw [F_x (by omega) hf.1, hv, e6, Int.toNat_natCast]
            rcases h with ⟨c2, h⟩ | ⟨c2, z24, A25, hb, hz, hu⟩
            · refine ih (i + 1) (by omega) (fun k hk2 => ?_) h
              by_cases e2 : k = i
              · rw [e2, ← e]; exact c2
              · exact hk k (by omega)
            · exact Or.inl ⟨hz.trans (C_none hb), i, by omega, by rw [← e]; exact c2⟩
      show match (if sFind (tw ta B) 0 (wv f N p) = -1 ∧ sFind (tw ta B) 1 (wv f N p) = -1 ∧ sFind (tw ta B) 2 (wv f N p) = -1 ∧ sFind (tw ta B) 3 (wv f N p) = -1 ∧ sFind (tw ta B) 4 (wv f N p) = -1 then some (wv f N p, tEnd f N p) else none) with
        | none => z = -1
        | some (v, e) => z = v ∧ z ≠ -1 ∧ CS f N e u ∧ tw ta u = tw ta B
      rcases lp nn 0 (by omega) (fun k hk => absurd hk (by omega)) h with ⟨hz, k, hk, g⟩ | ⟨hz, hu, g⟩
      · rw [if_neg (fun g2 => by
          rcases (show k = 0 ∨ k = 1 ∨ k = 2 ∨ k = 3 ∨ k = 4 by omega) with rfl | rfl | rfl | rfl | rfl
          · exact g g2.1
          · exact g g2.2.1
          · exact g g2.2.2.1
          · exact g g2.2.2.2.1
          · exact g g2.2.2.2.2)]
        exact hz
      · rw [if_pos ⟨g 0 (by decide), g 1 (by decide), g 2 (by decide), g 3 (by decide), g 4 (by decide)⟩]
        exact ⟨hz, by omega, by rw [hu]; exact ⟨hP.1, hP.2.1⟩, ht⟩
    · exact absurd hz c
  · rcases hn with ⟨hz1, _⟩ | ⟨_, hn⟩
    · omega
    · rw [hn]
      exact hz.trans (C_none hb)
theorem sFind_b (T : St) (kind : Nat) (w : Int) : sFind T kind w = -1 ∨ (0 ≤ sFind T kind w ∧ sFind T kind w < T 1 kind) := by
  have lp : ∀ (g : Nat → Int) k i, fnd g w k i = -1 ∨ ((i : Int) ≤ fnd g w k i ∧ fnd g w k i < (i : Int) + k) := by
    intro g k
    induction k with
    | zero => intro i; exact Or.inl rfl
    | succ k ih =>
      intro i
      unfold fnd
      split
      · right; omega
      · rcases ih (i + 1) with h | h
        · exact Or.inl h
        · right; omega
  rcases lp (T (3 + kind)) (T 1 kind).toNat 0 with h | h
  · exact Or.inl h
  · right
    unfold sFind
    omega
theorem C_isBox {ta : Nat} {x1 : Int} {A : St} {z : Int} (hx : 0 ≤ x1 ∧ x1 < tw ta A 1 1) (h : r_X9_isBox ta x1 A z) : (z = 1 ∧ tw ta A 10 x1.toNat = 0) ∨ (z = 0 ∧ tw ta A 10 x1.toNat ≠ 0) := by
  have hx2 : x1 < A (ta + 1) 1 := hx.2
  rcases (h : tr_r_X9_isBox ta x1 A z) with ⟨c, _⟩ | ⟨_, z2, hz2, h⟩
  · omega
  · have hz2 : z2 = A (ta + 1) 1 := hz2
    rcases h with ⟨c, _⟩ | ⟨_, z4, rfl, h⟩
    · omega
    · rcases h with ⟨c, hz⟩ | ⟨c, hz⟩
      · exact Or.inr ⟨hz, c⟩
      · exact Or.inl ⟨hz, c⟩
theorem C_askedSpot {f : Nat → Int} {N p ta : Nat} (hta : isT ta) {B u : St} {z : Int} (hE : EK f N B) (hX : LXA f N p B) (h : q_X5_askedSpot ta B z u) : CR f N ta B (sSpot f N (tw ta B) p) z u := by
  have ht : tw ta u = tw ta B := tw_fk hta h.2.2.1 rfl
  obtain ⟨z1, A2, hq, h⟩ := (h.1 : tr_r_X5_askedSpot ta B z u)
  obtain ⟨hE2, hX2, hn⟩ := C_isNameAhead hE hX hq
  unfold CR sSpot
  rcases h with ⟨c, A6, hp, z11, hf, h⟩ | ⟨c, z19, A20, hb, hz, hu⟩
  · rcases hn with ⟨_, hn, tk, hv⟩ | ⟨hz, _⟩
    · rw [hn]
      have hP := passX hE2 hX2 (by omega) hp
      have e6 : tw ta A6 = tw ta B := (tw_fk hta hp.2.2.1 rfl).trans (tw_fk hta hq.2.2.1 rfl)
      have e : z11 = sFind (tw ta B) 0 (wv f N p) := by rw [F_0 hf.1, hv, e6]
      show match (if sFind (tw ta B) 0 (wv f N p) ≠ -1 then some (sFind (tw ta B) 0 (wv f N p) + 10, tEnd f N p) else if sFind (tw ta B) 1 (wv f N p) ≠ -1 ∧ tw ta B 10 (sFind (tw ta B) 1 (wv f N p)).toNat = 0 then some (sFind (tw ta B) 1 (wv f N p) + 20, tEnd f N p) else none) with
        | none => z = -1
        | some (v, e) => z = v ∧ z ≠ -1 ∧ CS f N e u ∧ tw ta u = tw ta B
      rw [← e]
      rcases h with ⟨c, z15, hf1, h⟩ | ⟨c, hz, hu⟩
      · rw [if_neg (fun g => g c)]
        have e1 : z15 = sFind (tw ta B) 1 (wv f N p) := by rw [F_1 hf1.1, hv, e6]
        have b1 := sFind_b (tw ta B) 1 (wv f N p)
        rw [← e1] at b1 ⊢
        rcases h with ⟨c2, z19, A20, hb, hz, hu⟩ | ⟨c2, z23, hbx, h⟩
        · rw [if_neg (fun g => g.1 c2)]
          exact hz.trans (C_none hb)
        · have b1 : 0 ≤ z15 ∧ z15 < tw ta A6 1 1 := by
            rw [e6]
            rcases b1 with b1 | b1
            · exact absurd b1 c2
            · exact b1
          have hB := C_isBox b1 hbx.1
          rw [e6] at hB
          rcases h with ⟨c3, z27, A28, hb, hz, hu⟩ | ⟨c3, hz, hu⟩
          · rw [if_neg (fun g => by rcases hB with ⟨g1, _⟩ | ⟨_, g2⟩; omega; exact g2 g.2)]
            exact hz.trans (C_none hb)
          · rw [if_pos ⟨c2, by rcases hB with ⟨_, g⟩ | ⟨g, _⟩; exact g; exact absurd g c3⟩]
            exact ⟨hz, by omega, by rw [hu]; exact ⟨hP.1, hP.2.1⟩, ht⟩
      · rw [if_pos c]
        have := hf.2
        exact ⟨hz, by omega, by rw [hu]; exact ⟨hP.1, hP.2.1⟩, ht⟩
    · exact absurd hz c
  · rcases hn with ⟨hz1, _⟩ | ⟨_, hn⟩
    · omega
    · rw [hn]
      exact hz.trans (C_none hb)
theorem C_number {f : Nat → Int} {N p ta : Nat} (hta : isT ta) {x1 x2 : Int} {B u : St} {z : Int} (hE : EK f N B) (hX : LXA f N p B) (h : q_X5_number x1 x2 B z u) : CR f N ta B (sNum f N x1 x2 p) z u := by
  have ht : tw ta u = tw ta B := tw_fk hta h.2.2.1 rfl
  obtain ⟨A1, hq, h⟩ := (h.1 : tr_r_X5_number x1 x2 B z u)
  obtain ⟨hE1, hX1⟩ := lookA hE hX hq
  have k2 := hX1.2.2.1
  unfold CR sNum
  rcases h with ⟨c, A6, hp, h⟩ | ⟨c, z21, A22, hb, hz, hu⟩
  · have tk : tKind f N p = 2 := by omega
    have hv : A1 5 4 = nv f N p := hX1.2.2.2.2.2.1 tk
    have hP := passX hE1 hX1 (by omega) hp
    have hb := nv_b tk
    rw [hv] at h
    rcases h with ⟨c1, z12, A13, hb, hz, hu⟩ | ⟨c1, h⟩
    · rw [if_neg (by omega)]
      exact hz.trans (C_none hb)
    · rcases h with ⟨c2, hz, hu⟩ | ⟨c2, z17, A18, hb, hz, hu⟩
      · rw [if_pos ⟨tk, by omega, c2⟩]
        exact ⟨hz, by omega, by rw [hu]; exact ⟨hP.1, hP.2.1⟩, ht⟩
      · rw [if_neg (by omega)]
        exact hz.trans (C_none hb)
  · rw [if_neg (by omega)]
    exact hz.trans (C_none hb)
/-- an answer of yes or no; with no, the token is still there -/
def CP (f : Nat → Int) (N ta p : Nat) (B : St) (r : Option Nat) (z : Int) (u : St) : Prop := match r with
  | none => z = 0 ∧ EK f N u ∧ LX1 f N p u ∧ tw ta u = tw ta B
  | some e => z = 1 ∧ CS f N e u ∧ tw ta u = tw ta B
/-- an answer of yes or no; with no, nothing is said -/
def CQ (f : Nat → Int) (N ta : Nat) (B : St) (r : Option Nat) (z : Int) (u : St) : Prop := match r with
  | none => z = 0
  | some e => z = 1 ∧ CS f N e u ∧ tw ta u = tw ta B
theorem isS_iff {f : Nat → Int} {N p : Nat} {c z : Int} {A : St} (hc : 0 ≤ c ∧ c ≤ 127) (hX : LX1 f N p A) (h : q_X3_isSign c A z) : (z = 1 ∧ tKind f N p = 3 ∧ f (sAt f N p) = c) ∨ (z = 0 ∧ ¬ (tKind f N p = 3 ∧ f (sAt f N p) = c)) := by
  have k2 := hX.2.2.1
  rcases (h.1 : tr_r_X3_isSign c A z) with ⟨c1, hz⟩ | ⟨c1, h⟩
  · exact Or.inr ⟨hz, fun g => c1 (by omega)⟩
  · have tk : tKind f N p = 3 := by omega
    have hv := hX.2.2.2.2.2.2 tk
    rcases h with ⟨c2, hz⟩ | ⟨c2, hz⟩
    · exact Or.inr ⟨hz, fun g => by omega⟩
    · exact Or.inl ⟨hz, tk, by omega⟩
theorem C_sign {f : Nat → Int} {N p ta : Nat} (hta : isT ta) {c : Int} (hc : 0 ≤ c ∧ c ≤ 127) {B u : St} {z : Int} (hE : EK f N B) (hX : LXA f N p B) (h : q_X5_sign c B z u) : CQ f N ta B (sSign f N c p) z u := by
  have ht : tw ta u = tw ta B := tw_fk hta h.2.2.1 rfl
  obtain ⟨A1, hq, z4, hs, h⟩ := (h.1 : tr_r_X5_sign c B z u)
  obtain ⟨hE1, hX1⟩ := lookA hE hX hq
  have hS := isS_iff hc hX1 hs
  unfold CQ sSign
  rcases h with ⟨c1, A8, hp, hz, hu⟩ | ⟨c1, z11, A12, hb, hz, hu⟩
  · rcases hS with ⟨_, g1, g2⟩ | ⟨g, _⟩
    · rw [if_pos ⟨g1, g2⟩]
      have hP := passX hE1 hX1 (by omega) hp
      exact ⟨hz, by rw [hu]; exact ⟨hP.1, hP.2.1⟩, ht⟩
    · exact absurd g c1
  · rcases hS with ⟨g, _⟩ | ⟨_, g⟩
    · omega
    · rw [if_neg g]
      exact hz.trans hb.2.2.2.2
theorem C_passesSign {f : Nat → Int} {N p ta : Nat} (hta : isT ta) {c : Int} (hc : 0 ≤ c ∧ c ≤ 127) {B u : St} {z : Int} (hE : EK f N B) (hX : LXA f N p B) (h : q_X5_passesSign c B z u) : CP f N ta p B (sSign f N c p) z u := by
  have ht : tw ta u = tw ta B := tw_fk hta h.2.2.1 rfl
  obtain ⟨A1, hq, z4, hs, h⟩ := (h.1 : tr_r_X5_passesSign c B z u)
  obtain ⟨hE1, hX1⟩ := lookA hE hX hq
  have hS := isS_iff hc hX1 hs
  unfold CP sSign
  rcases h with ⟨c1, A8, hp, hz, hu⟩ | ⟨c1, hz, hu⟩
  · rcases hS with ⟨_, g1, g2⟩ | ⟨g, _⟩
    · rw [if_pos ⟨g1, g2⟩]
      have hP := passX hE1 hX1 (by omega) hp
      exact ⟨hz, by rw [hu]; exact ⟨hP.1, hP.2.1⟩, ht⟩
    · exact absurd g c1
  · rcases hS with ⟨g, _⟩ | ⟨_, g⟩
    · omega
    · rw [if_neg g]
      exact ⟨hz, by rw [hu]; exact hE1, by rw [hu]; exact hX1, ht⟩
theorem C_passesWord {f : Nat → Int} {N p ta : Nat} (hta : isT ta) {k : Nat} (hk : k < 26) {x : Int} (hx : x = (k : Int)) {B u : St} {z : Int} (hE : EK f N B) (hX : LXA f N p B) (h : q_X5_passesWord x B z u) : CP f N ta p B (sOwn f N k p) z u := by
  have ht : tw ta u = tw ta B := tw_fk hta h.2.2.1 rfl
  obtain ⟨A1, hq, h⟩ := (h.1 : tr_r_X5_passesWord x B z u)
  obtain ⟨hE1, hX1⟩ := lookA hE hX hq
  have k2 := hX1.2.2.1
  unfold CP sOwn
  rcases h with ⟨c1, hz, hu⟩ | ⟨c1, h⟩
  · rw [if_neg (fun g => c1 (by omega))]
    exact ⟨hz, by rw [hu]; exact hE1, by rw [hu]; exact hX1, ht⟩
  · have tk : tKind f N p = 1 := by omega
    have hv : A1 5 4 = wv f N p := hX1.2.2.2.2.1 tk
    rcases h with ⟨c2, _⟩ | ⟨_, h⟩
    · omega
    · rcases h with ⟨c3, _⟩ | ⟨_, z10, hz10, h⟩
      · omega
      · have e : z10 = own5 k := by
          rw [hz10, hx, Int.toNat_natCast]
          exact hE1.2.2.2.2 k hk
        rw [e, hv] at h
        rcases h with ⟨c4, A12, hp, hz, hu⟩ | ⟨c4, hz, hu⟩
        · rw [if_pos ⟨tk, c4⟩]
          have hP := passX hE1 hX1 (by omega) hp
          exact ⟨hz, by rw [hu]; exact ⟨hP.1, hP.2.1⟩, ht⟩
        · rw [if_neg (fun g => c4 g.2)]
          exact ⟨hz, by rw [hu]; exact hE1, by rw [hu]; exact hX1, ht⟩
theorem C_ownWord {f : Nat → Int} {N p ta : Nat} (hta : isT ta) {k : Nat} (hk : k < 26) {x : Int} (hx : x = (k : Int)) {B u : St} {z : Int} (hE : EK f N B) (hX : LXA f N p B) (h : q_X5_ownWord x B z u) : CQ f N ta B (sOwn f N k p) z u := by
  obtain ⟨z1, A2, hq, h⟩ := (h.1 : tr_r_X5_ownWord x B z u)
  have hP := C_passesWord hta hk hx hE hX hq
  unfold CP at hP
  unfold CQ
  cases ho : sOwn f N k p with
  | none =>
    rw [ho] at hP
    rcases h with ⟨c, _⟩ | ⟨_, z6, A7, _, hz, _⟩
    · exact absurd hP.1 c
    · exact hz
  | some e =>
    rw [ho] at hP
    rcases h with ⟨_, hz, hu⟩ | ⟨c, _⟩
    · rw [hu]
      exact ⟨hz, hP.2⟩
    · have := hP.1
      omega
/-! The class's statements. -/
theorem tw_st (ta j i : Nat) (v : Int) (B : St) : tw ta (stA B (ta + j) i v) = stA (tw ta B) j i v := by
  funext a b
  show stA B (ta + j) i v (ta + a) b = _
  by_cases h : a = j
  · subst h
    rw [stA_same, stA_same]
    rfl
  · rw [stA_ne _ _ h, stA_ne _ _ (by omega)]
    rfl
theorem LX0.fr {f : Nat → Int} {N e : Nat} {A u : St} {P : List Nat} {F : List (Nat × Nat)} (h : LX0 f N e A) (hf : fk P F A u) (p5 : P.contains 5 = false) (f5 : ∀ k, fin2 F 5 k = false) : LX0 f N e u := by
  have g : ∀ k, u 5 k = A 5 k := fun k => hf 5 k p5 (f5 k)
  unfold LX0
  rw [g 6, g 1, g 5]
  exact h
theorem CS.fr {f : Nat → Int} {N e : Nat} {A u : St} {P : List Nat} {F : List (Nat × Nat)} (h : CS f N e A) (hI : IK u) (hf : fk P F A u) (p1 : P.contains 1 = false) (p2 : P.contains 2 = false) (p4 : P.contains 4 = false) (p5 : P.contains 5 = false) (f1 : fin2 F 1 1 = false) (f2 : ∀ k, fin2 F 2 k = false) (f4 : ∀ k, fin2 F 4 k = false) (f5 : ∀ k, fin2 F 5 k = false) : CS f N e u := ⟨h.1.fr hI hf p1 p2 p4 f1 f2 f4, h.2.fr hf p5 f5⟩
def sAdd (T : St) (k : Nat) (w : Int) : St := stA (stA T (3 + k) (T 1 k).toNat w) 1 k (T 1 k + 1)
/-- a statement's answer: the town as it is then, and where the text goes on -/
def CT (f : Nat → Int) (N ta : Nat) (r : Option (St × Nat)) (z : Int) (u : St) : Prop := match r with
  | none => z = 0
  | some (T, e) => z = 1 ∧ CS f N e u ∧ tw ta u = T
theorem C_add_0 {f : Nat → Int} {N e ta : Nat} {x2 : Int} {A u : St} {z : Int} (hl : tw ta A 1 0 < 8) (hx : x2 ≠ -1) (hC : CS f N e A) (h : q_X9_add_1_0 ta x2 A z u) : z = 1 ∧ CS f N e u ∧ tw ta u = sAdd (tw ta A) 0 x2 := by
  have hl : A (ta + 1) 0 < 8 := hl
  have hC2 : CS f N e u := hC.fr h.2.1 h.2.2.1 rfl rfl rfl rfl rfl (fun _ => rfl) (fun _ => rfl) (fun _ => rfl)
  rcases (h.1 : tr_r_X9_add_1_0 ta x2 A z u) with ⟨c, _⟩ | ⟨_, z4, hz4, h⟩
  · exact absurd c hx
  · have hz4 : z4 = A (ta + 1) 0 := hz4
    rcases h with ⟨_, A8, hA8, A11, hA11, hz, hu⟩ | ⟨c, _⟩
    · refine ⟨hz, hC2, ?_⟩
      have hA8 : A8 = stA A (ta + (3 + 0)) z4.toNat x2 := hA8
      have hA11 : A11 = stA A8 (ta + 1) 0 (z4 + 1) := hA11
      rw [hu, hA11, tw_st, hA8, tw_st, hz4]
      rfl
    · omega
theorem C_add_1 {f : Nat → Int} {N e ta : Nat} {x2 : Int} {A u : St} {z : Int} (hl : tw ta A 1 1 < 10) (hx : x2 ≠ -1) (hC : CS f N e A) (h : q_X9_add_1_1 ta x2 A z u) : z = 1 ∧ CS f N e u ∧ tw ta u = sAdd (tw ta A) 1 x2 := by
  have hl : A (ta + 1) 1 < 10 := hl
  have hC2 : CS f N e u := hC.fr h.2.1 h.2.2.1 rfl rfl rfl rfl rfl (fun _ => rfl) (fun _ => rfl) (fun _ => rfl)
  rcases (h.1 : tr_r_X9_add_1_1 ta x2 A z u) with ⟨c, _⟩ | ⟨_, z4, hz4, h⟩
  · exact absurd c hx
  · have hz4 : z4 = A (ta + 1) 1 := hz4
    rcases h with ⟨_, A8, hA8, A11, hA11, hz, hu⟩ | ⟨c, _⟩
    · refine ⟨hz, hC2, ?_⟩
      have hA8 : A8 = stA A (ta + (3 + 1)) z4.toNat x2 := hA8
      have hA11 : A11 = stA A8 (ta + 1) 1 (z4 + 1) := hA11
      rw [hu, hA11, tw_st, hA8, tw_st, hz4]
      rfl
    · omega
theorem C_add_2 {f : Nat → Int} {N e ta : Nat} {x2 : Int} {A u : St} {z : Int} (hl : tw ta A 1 2 < 4) (hx : x2 ≠ -1) (hC : CS f N e A) (h : q_X9_add_1_2 ta x2 A z u) : z = 1 ∧ CS f N e u ∧ tw ta u = sAdd (tw ta A) 2 x2 := by
  have hl : A (ta + 1) 2 < 4 := hl
  have hC2 : CS f N e u := hC.fr h.2.1 h.2.2.1 rfl rfl rfl rfl rfl (fun _ => rfl) (fun _ => rfl) (fun _ => rfl)
  rcases (h.1 : tr_r_X9_add_1_2 ta x2 A z u) with ⟨c, _⟩ | ⟨_, z4, hz4, h⟩
  · exact absurd c hx
  · have hz4 : z4 = A (ta + 1) 2 := hz4
    rcases h with ⟨_, A8, hA8, A11, hA11, hz, hu⟩ | ⟨c, _⟩
    · refine ⟨hz, hC2, ?_⟩
      have hA8 : A8 = stA A (ta + (3 + 2)) z4.toNat x2 := hA8
      have hA11 : A11 = stA A8 (ta + 1) 2 (z4 + 1) := hA11
      rw [hu, hA11, tw_st, hA8, tw_st, hz4]
      rfl
    · omega
theorem C_add_3 {f : Nat → Int} {N e ta : Nat} {x2 : Int} {A u : St} {z : Int} (hl : tw ta A 1 3 < 3) (hx : x2 ≠ -1) (hC : CS f N e A) (h : q_X9_add_1_3 ta x2 A z u) : z = 1 ∧ CS f N e u ∧ tw ta u = sAdd (tw ta A) 3 x2 := by
  have hl : A (ta + 1) 3 < 3 := hl
  have hC2 : CS f N e u := hC.fr h.2.1 h.2.2.1 rfl rfl rfl rfl rfl (fun _ => rfl) (fun _ => rfl) (fun _ => rfl)
  rcases (h.1 : tr_r_X9_add_1_3 ta x2 A z u) with ⟨c, _⟩ | ⟨_, z4, hz4, h⟩
  · exact absurd c hx
  · have hz4 : z4 = A (ta + 1) 3 := hz4
    rcases h with ⟨_, A8, hA8, A11, hA11, hz, hu⟩ | ⟨c, _⟩
    · refine ⟨hz, hC2, ?_⟩
      have hA8 : A8 = stA A (ta + (3 + 3)) z4.toNat x2 := hA8
      have hA11 : A11 = stA A8 (ta + 1) 3 (z4 + 1) := hA11
      rw [hu, hA11, tw_st, hA8, tw_st, hz4]
      rfl
    · omega
theorem C_add_4 {f : Nat → Int} {N e ta : Nat} {x2 : Int} {A u : St} {z : Int} (hl : tw ta A 1 4 < 4) (hx : x2 ≠ -1) (hC : CS f N e A) (h : q_X9_add_1_4 ta x2 A z u) : z = 1 ∧ CS f N e u ∧ tw ta u = sAdd (tw ta A) 4 x2 := by
  have hl : A (ta + 1) 4 < 4 := hl
  have hC2 : CS f N e u := hC.fr h.2.1 h.2.2.1 rfl rfl rfl rfl rfl (fun _ => rfl) (fun _ => rfl) (fun _ => rfl)
  rcases (h.1 : tr_r_X9_add_1_4 ta x2 A z u) with ⟨c, _⟩ | ⟨_, z4, hz4, h⟩
  · exact absurd c hx
  · have hz4 : z4 = A (ta + 1) 4 := hz4
    rcases h with ⟨_, A8, hA8, A11, hA11, hz, hu⟩ | ⟨c, _⟩
    · refine ⟨hz, hC2, ?_⟩
      have hA8 : A8 = stA A (ta + (3 + 4)) z4.toNat x2 := hA8
      have hA11 : A11 = stA A8 (ta + 1) 4 (z4 + 1) := hA11
      rw [hu, hA11, tw_st, hA8, tw_st, hz4]
      rfl
    · omega
def sDoorAdd (T : St) (w a b m : Int) : St := stA (stA (stA (sAdd T 1 w) 8 (T 1 1).toNat a) 9 (T 1 1).toNat b) 10 (T 1 1).toNat m
theorem C_addDoor {f : Nat → Int} {N e ta : Nat} {x1 x2 x3 x4 : Int} {A u : St} {z : Int} (hl : tw ta A 1 1 < 10) (hx : x1 ≠ -1) (hC : CS f N e A) (h : q_X9_addDoor ta x1 x2 x3 x4 A z u) : z = 1 ∧ CS f N e u ∧ tw ta u = sDoorAdd (tw ta A) x1 x2 x3 x4 := by
  have hC2 : CS f N e u := hC.fr h.2.1 h.2.2.1 rfl rfl rfl rfl rfl (fun _ => rfl) (fun _ => rfl) (fun _ => rfl)
  obtain ⟨z1, A2, hq, h⟩ := (h.1 : tr_r_X9_addDoor ta x1 x2 x3 x4 A z u)
  obtain ⟨g1, _, g2⟩ := C_add_1 hl hx hC hq
  rcases h with ⟨_, z6, hz6, A7, hA7, A8, hA8, A9, hA9, hz, hu⟩ | ⟨c, _⟩
  · refine ⟨hz, hC2, ?_⟩
    have hz6 : z6 = tw ta A2 1 1 := hz6
    have e : z6 - 1 = tw ta A 1 1 := by
      rw [hz6, g2]
      show tw ta A 1 1 + 1 - 1 = _
      omega
    rw [e] at hA7 hA8 hA9
    rw [hu, hA9, tw_st, hA8, tw_st, hA7, tw_st, g2]
    rfl
  · omega
def sKeyAdd (T : St) (w a : Int) : St := stA (sAdd T 2 w) 24 (T 1 2).toNat a
theorem C_addKey {f : Nat → Int} {N e ta : Nat} {x1 x2 : Int} {A u : St} {z : Int} (hl : tw ta A 1 2 < 4) (hx : x1 ≠ -1) (hC : CS f N e A) (h : q_X9_addKey ta x1 x2 A z u) : z = 1 ∧ CS f N e u ∧ tw ta u = sKeyAdd (tw ta A) x1 x2 := by
  have hC2 : CS f N e u := hC.fr h.2.1 h.2.2.1 rfl rfl rfl rfl rfl (fun _ => rfl) (fun _ => rfl) (fun _ => rfl)
  obtain ⟨z1, A2, hq, h⟩ := (h.1 : tr_r_X9_addKey ta x1 x2 A z u)
  obtain ⟨g1, _, g2⟩ := C_add_2 hl hx hC hq
  rcases h with ⟨_, z6, hz6, A7, hA7, hz, hu⟩ | ⟨c, _⟩
  · refine ⟨hz, hC2, ?_⟩
    have hz6 : z6 = tw ta A2 1 2 := hz6
    have e : z6 - 1 = tw ta A 1 2 := by
      rw [hz6, g2]
      show tw ta A 1 2 + 1 - 1 = _
      omega
    have hA7 : A7 = stA A2 (ta + 24) (z6 - 1).toNat x2 := hA7
    rw [e] at hA7
    rw [hu, hA7, tw_st, g2]
    rfl
  · omega
def sPersonAdd (T : St) (w a : Int) : St := stA (sAdd T 3 w) 23 (T 1 3).toNat a
theorem C_addPerson {f : Nat → Int} {N e ta : Nat} {x1 x2 : Int} {A u : St} {z : Int} (hl : tw ta A 1 3 < 3) (hx : x1 ≠ -1) (hC : CS f N e A) (h : q_X9_addPerson ta x1 x2 A z u) : z = 1 ∧ CS f N e u ∧ tw ta u = sPersonAdd (tw ta A) x1 x2 := by
  have hC2 : CS f N e u := hC.fr h.2.1 h.2.2.1 rfl rfl rfl rfl rfl (fun _ => rfl) (fun _ => rfl) (fun _ => rfl)
  obtain ⟨z1, A2, hq, h⟩ := (h.1 : tr_r_X9_addPerson ta x1 x2 A z u)
  obtain ⟨g1, _, g2⟩ := C_add_3 hl hx hC hq
  rcases h with ⟨_, z6, hz6, A7, hA7, hz, hu⟩ | ⟨c, _⟩
  · refine ⟨hz, hC2, ?_⟩
    have hz6 : z6 = tw ta A2 1 3 := hz6
    have e : z6 - 1 = tw ta A 1 3 := by
      rw [hz6, g2]
      show tw ta A 1 3 + 1 - 1 = _
      omega
    have hA7 : A7 = stA A2 (ta + 23) (z6 - 1).toNat x2 := hA7
    rw [e] at hA7
    rw [hu, hA7, tw_st, g2]
    rfl
  · omega
def sThingAdd (T : St) (w a : Int) : St := stA (sAdd T 4 w) 11 (T 1 4).toNat a
theorem C_addThing {f : Nat → Int} {N e ta : Nat} {x1 x2 : Int} {A u : St} {z : Int} (hl : tw ta A 1 4 < 4) (hx : x1 ≠ -1) (hC : CS f N e A) (h : q_X9_addThing ta x1 x2 A z u) : z = 1 ∧ CS f N e u ∧ tw ta u = sThingAdd (tw ta A) x1 x2 := by
  have hC2 : CS f N e u := hC.fr h.2.1 h.2.2.1 rfl rfl rfl rfl rfl (fun _ => rfl) (fun _ => rfl) (fun _ => rfl)
  obtain ⟨z1, A2, hq, h⟩ := (h.1 : tr_r_X9_addThing ta x1 x2 A z u)
  obtain ⟨g1, _, g2⟩ := C_add_4 hl hx hC hq
  rcases h with ⟨_, z6, hz6, A7, hA7, hz, hu⟩ | ⟨c, _⟩
  · refine ⟨hz, hC2, ?_⟩
    have hz6 : z6 = tw ta A2 1 4 := hz6
    have e : z6 - 1 = tw ta A 1 4 := by
      rw [hz6, g2]
      show tw ta A 1 4 + 1 - 1 = _
      omega
    have hA7 : A7 = stA A2 (ta + 11) (z6 - 1).toNat x2 := hA7
    rw [e] at hA7
    rw [hu, hA7, tw_st, g2]
    rfl
  · omega
def sBox (f : Nat → Int) (N : Nat) (T : St) (p : Nat) : Option (St × Nat) := (sNew f N T p).bind fun a => (sOwn f N 12 a.2).bind fun b => (sAsk f N T 0 b).bind fun c => some (sDoorAdd T a.1 c.1 c.1 0, c.2)
theorem C_readBox {f : Nat → Int} {N p ta : Nat} (hta : isT ta) {B u : St} {z : Int} (hE : EK f N B) (hX : LXA f N p B) (hl : tw ta B 1 1 < 10) (h : q_X5_readBox ta B z u) : CT f N ta (sBox f N (tw ta B) p) z u := by
  obtain ⟨z1, A2, hq, h⟩ := (h.1 : tr_r_X5_readBox ta B z u)
  have h1 := C_newName hta hE hX hq
  unfold sBox
  cases r1 : sNew f N (tw ta B) p with
  | none =>
    rw [r1] at h1
    have h1 : z1 = -1 := h1
    rcases h with ⟨_, hz, _⟩ | ⟨c, _⟩
    · exact hz
    · exact absurd h1 c
  | some a =>
    rw [r1] at h1
    obtain ⟨e1, n1, hC, ht⟩ := (show z1 = a.1 ∧ z1 ≠ -1 ∧ CS f N a.2 A2 ∧ tw ta A2 = tw ta B from h1)
    rcases h with ⟨c, _⟩ | ⟨_, z6, A7, hq2, h⟩
    · exact absurd c n1
    · have h2 := C_ownWord hta (k := 12) (by decide) rfl hC.1 (Or.inl hC.2) hq2
      show CT f N ta ((sOwn f N 12 a.2).bind _) z u
      cases r2 : sOwn f N 12 a.2 with
      | none =>
        rw [r2] at h2
        have h2 : z6 = 0 := h2
        rcases h with ⟨c, _⟩ | ⟨_, hz, _⟩
        · exact absurd h2 c
        · exact hz
      | some b =>
        rw [r2] at h2
        obtain ⟨n2, hC2, ht2⟩ := (show z6 = 1 ∧ CS f N b A7 ∧ tw ta A7 = tw ta A2 from h2)
        rcases h with ⟨_, z11, A12, hq3, h⟩ | ⟨c, _⟩
        · have h3 := C_asked_0 hta hC2.1 (Or.inl hC2.2) hq3
          rw [ht2, ht] at h3
          show CT f N ta ((sAsk f N (tw ta B) 0 b).bind _) z u
          cases r3 : sAsk f N (tw ta B) 0 b with
          | none =>
            rw [r3] at h3
            have h3 : z11 = -1 := h3
            rcases h with ⟨_, hz, _⟩ | ⟨c, _⟩
            · exact hz
            · exact absurd h3 c
          | some c =>
            rw [r3] at h3
            obtain ⟨e3, n3, hC3, ht3⟩ := (show z11 = c.1 ∧ z11 ≠ -1 ∧ CS f N c.2 A12 ∧ tw ta A12 = tw ta A7 from h3)
            rcases h with ⟨c1, _⟩ | ⟨_, z16, A17, hq4, h⟩
            · exact absurd c1 n3
            · have e12 : tw ta A12 = tw ta B := by rw [ht3, ht2, ht]
              obtain ⟨g1, g2, g3⟩ := C_addDoor (by rw [e12]; exact hl) n1 hC3 hq4
              rw [e12, e1, e3] at g3
              rcases h with ⟨c1, _⟩ | ⟨_, hz, hu⟩
              · omega
              · rw [hu]
                exact ⟨hz, g2, g3⟩
        · omega
def sKey (f : Nat → Int) (N : Nat) (T : St) (p : Nat) : Option (St × Nat) := (sNew f N T p).bind fun a => (sOwn f N 13 a.2).bind fun b => (sSpot f N T b).bind fun c => some (sKeyAdd T a.1 c.1, c.2)
theorem C_readKey {f : Nat → Int} {N p ta : Nat} (hta : isT ta) {B u : St} {z : Int} (hE : EK f N B) (hX : LXA f N p B) (hl : tw ta B 1 2 < 4) (h : q_X5_readKey ta B z u) : CT f N ta (sKey f N (tw ta B) p) z u := by
  obtain ⟨z1, A2, hq, h⟩ := (h.1 : tr_r_X5_readKey ta B z u)
  have h1 := C_newName hta hE hX hq
  unfold sKey
  cases r1 : sNew f N (tw ta B) p with
  | none =>
    rw [r1] at h1
    have h1 : z1 = -1 := h1
    rcases h with ⟨_, hz, _⟩ | ⟨c, _⟩
    · exact hz
    · exact absurd h1 c
  | some a =>
    rw [r1] at h1
    obtain ⟨e1, n1, hC, ht⟩ := (show z1 = a.1 ∧ z1 ≠ -1 ∧ CS f N a.2 A2 ∧ tw ta A2 = tw ta B from h1)
    rcases h with ⟨c, _⟩ | ⟨_, z6, A7, hq2, h⟩
    · exact absurd c n1
    · have h2 := C_ownWord hta (k := 13) (by decide) rfl hC.1 (Or.inl hC.2) hq2
      show CT f N ta ((sOwn f N 13 a.2).bind _) z u
      cases r2 : sOwn f N 13 a.2 with
      | none =>
        rw [r2] at h2
        have h2 : z6 = 0 := h2
        rcases h with ⟨c, _⟩ | ⟨_, hz, _⟩
        · exact absurd h2 c
        · exact hz
      | some b =>
        rw [r2] at h2
        obtain ⟨n2, hC2, ht2⟩ := (show z6 = 1 ∧ CS f N b A7 ∧ tw ta A7 = tw ta A2 from h2)
        rcases h with ⟨_, z11, A12, hq3, h⟩ | ⟨c, _⟩
        · have h3 := C_askedSpot hta hC2.1 (Or.inl hC2.2) hq3
          rw [ht2, ht] at h3
          show CT f N ta ((sSpot f N (tw ta B) b).bind _) z u
          cases r3 : sSpot f N (tw ta B) b with
          | none =>
            rw [r3] at h3
            have h3 : z11 = -1 := h3
            rcases h with ⟨_, hz, _⟩ | ⟨c, _⟩
            · exact hz
            · exact absurd h3 c
          | some c =>
            rw [r3] at h3
            obtain ⟨e3, n3, hC3, ht3⟩ := (show z11 = c.1 ∧ z11 ≠ -1 ∧ CS f N c.2 A12 ∧ tw ta A12 = tw ta A7 from h3)
            rcases h with ⟨c1, _⟩ | ⟨_, z16, A17, hq4, h⟩
            · exact absurd c1 n3
            · have e12 : tw ta A12 = tw ta B := by rw [ht3, ht2, ht]
              obtain ⟨g1, g2, g3⟩ := C_addKey (by rw [e12]; exact hl) n1 hC3 hq4
              rw [e12, e1, e3] at g3
              rcases h with ⟨c1, _⟩ | ⟨_, hz, hu⟩
              · omega
              · rw [hu]
                exact ⟨hz, g2, g3⟩
        · omega
def sPerson (f : Nat → Int) (N : Nat) (T : St) (p : Nat) : Option (St × Nat) := (sNew f N T p).bind fun a => (sOwn f N 12 a.2).bind fun b => (sAsk f N T 0 b).bind fun c => some (sPersonAdd T a.1 c.1, c.2)
theorem C_readPerson {f : Nat → Int} {N p ta : Nat} (hta : isT ta) {B u : St} {z : Int} (hE : EK f N B) (hX : LXA f N p B) (hl : tw ta B 1 3 < 3) (h : q_X5_readPerson ta B z u) : CT f N ta (sPerson f N (tw ta B) p) z u := by
  obtain ⟨z1, A2, hq, h⟩ := (h.1 : tr_r_X5_readPerson ta B z u)
  have h1 := C_newName hta hE hX hq
  unfold sPerson
  cases r1 : sNew f N (tw ta B) p with
  | none =>
    rw [r1] at h1
    have h1 : z1 = -1 := h1
    rcases h with ⟨_, hz, _⟩ | ⟨c, _⟩
    · exact hz
    · exact absurd h1 c
  | some a =>
    rw [r1] at h1
    obtain ⟨e1, n1, hC, ht⟩ := (show z1 = a.1 ∧ z1 ≠ -1 ∧ CS f N a.2 A2 ∧ tw ta A2 = tw ta B from h1)
    rcases h with ⟨c, _⟩ | ⟨_, z6, A7, hq2, h⟩
    · exact absurd c n1
    · have h2 := C_ownWord hta (k := 12) (by decide) rfl hC.1 (Or.inl hC.2) hq2
      show CT f N ta ((sOwn f N 12 a.2).bind _) z u
      cases r2 : sOwn f N 12 a.2 with
      | none =>
        rw [r2] at h2
        have h2 : z6 = 0 := h2
        rcases h with ⟨c, _⟩ | ⟨_, hz, _⟩
        · exact absurd h2 c
        · exact hz
      | some b =>
        rw [r2] at h2
        obtain ⟨n2, hC2, ht2⟩ := (show z6 = 1 ∧ CS f N b A7 ∧ tw ta A7 = tw ta A2 from h2)
        rcases h with ⟨_, z11, A12, hq3, h⟩ | ⟨c, _⟩
        · have h3 := C_asked_0 hta hC2.1 (Or.inl hC2.2) hq3
          rw [ht2, ht] at h3
          show CT f N ta ((sAsk f N (tw ta B) 0 b).bind _) z u
          cases r3 : sAsk f N (tw ta B) 0 b with
          | none =>
            rw [r3] at h3
            have h3 : z11 = -1 := h3
            rcases h with ⟨_, hz, _⟩ | ⟨c, _⟩
            · exact hz
            · exact absurd h3 c
          | some c =>
            rw [r3] at h3
            obtain ⟨e3, n3, hC3, ht3⟩ := (show z11 = c.1 ∧ z11 ≠ -1 ∧ CS f N c.2 A12 ∧ tw ta A12 = tw ta A7 from h3)
            rcases h with ⟨c1, _⟩ | ⟨_, z16, A17, hq4, h⟩
            · exact absurd c1 n3
            · have e12 : tw ta A12 = tw ta B := by rw [ht3, ht2, ht]
              obtain ⟨g1, g2, g3⟩ := C_addPerson (by rw [e12]; exact hl) n1 hC3 hq4
              rw [e12, e1, e3] at g3
              rcases h with ⟨c1, _⟩ | ⟨_, hz, hu⟩
              · omega
              · rw [hu]
                exact ⟨hz, g2, g3⟩
        · omega
def sThing (f : Nat → Int) (N : Nat) (T : St) (p : Nat) : Option (St × Nat) := (sNew f N T p).bind fun a => (sOwn f N 13 a.2).bind fun b => (sSpot f N T b).bind fun c => some (sThingAdd T a.1 c.1, c.2)
theorem C_readThing {f : Nat → Int} {N p ta : Nat} (hta : isT ta) {B u : St} {z : Int} (hE : EK f N B) (hX : LXA f N p B) (hl : tw ta B 1 4 < 4) (h : q_X5_readThing ta B z u) : CT f N ta (sThing f N (tw ta B) p) z u := by
  obtain ⟨z1, A2, hq, h⟩ := (h.1 : tr_r_X5_readThing ta B z u)
  have h1 := C_newName hta hE hX hq
  unfold sThing
  cases r1 : sNew f N (tw ta B) p with
  | none =>
    rw [r1] at h1
    have h1 : z1 = -1 := h1
    rcases h with ⟨_, hz, _⟩ | ⟨c, _⟩
    · exact hz
    · exact absurd h1 c
  | some a =>
    rw [r1] at h1
    obtain ⟨e1, n1, hC, ht⟩ := (show z1 = a.1 ∧ z1 ≠ -1 ∧ CS f N a.2 A2 ∧ tw ta A2 = tw ta B from h1)
    rcases h with ⟨c, _⟩ | ⟨_, z6, A7, hq2, h⟩
    · exact absurd c n1
    · have h2 := C_ownWord hta (k := 13) (by decide) rfl hC.1 (Or.inl hC.2) hq2
      show CT f N ta ((sOwn f N 13 a.2).bind _) z u
      cases r2 : sOwn f N 13 a.2 with
      | none =>
        rw [r2] at h2
        have h2 : z6 = 0 := h2
        rcases h with ⟨c, _⟩ | ⟨_, hz, _⟩
        · exact absurd h2 c
        · exact hz
      | some b =>
        rw [r2] at h2
        obtain ⟨n2, hC2, ht2⟩ := (show z6 = 1 ∧ CS f N b A7 ∧ tw ta A7 = tw ta A2 from h2)
        rcases h with ⟨_, z11, A12, hq3, h⟩ | ⟨c, _⟩
        · have h3 := C_askedSpot hta hC2.1 (Or.inl hC2.2) hq3
          rw [ht2, ht] at h3
          show CT f N ta ((sSpot f N (tw ta B) b).bind _) z u
          cases r3 : sSpot f N (tw ta B) b with
          | none =>
            rw [r3] at h3
            have h3 : z11 = -1 := h3
            rcases h with ⟨_, hz, _⟩ | ⟨c, _⟩
            · exact hz
            · exact absurd h3 c
          | some c =>
            rw [r3] at h3
            obtain ⟨e3, n3, hC3, ht3⟩ := (show z11 = c.1 ∧ z11 ≠ -1 ∧ CS f N c.2 A12 ∧ tw ta A12 = tw ta A7 from h3)
            rcases h with ⟨c1, _⟩ | ⟨_, z16, A17, hq4, h⟩
            · exact absurd c1 n3
            · have e12 : tw ta A12 = tw ta B := by rw [ht3, ht2, ht]
              obtain ⟨g1, g2, g3⟩ := C_addThing (by rw [e12]; exact hl) n1 hC3 hq4
              rw [e12, e1, e3] at g3
              rcases h with ⟨c1, _⟩ | ⟨_, hz, hu⟩
              · omega
              · rw [hu]
                exact ⟨hz, g2, g3⟩
        · omega
def sDoor (f : Nat → Int) (N : Nat) (T : St) (p : Nat) : Option (St × Nat) := (sNew f N T p).bind fun a => (sAsk f N T 0 a.2).bind fun b => (sAsk f N T 0 b.2).bind fun c => if c.1 = b.1 then none else (sNum f N 1 99 c.2).bind fun d => some (sDoorAdd T a.1 b.1 c.1 d.1, d.2)
theorem C_readDoor {f : Nat → Int} {N p ta : Nat} (hta : isT ta) {B u : St} {z : Int} (hE : EK f N B) (hX : LXA f N p B) (hl : tw ta B 1 1 < 10) (h : q_X5_readDoor ta B z u) : CT f N ta (sDoor f N (tw ta B) p) z u := by
  obtain ⟨z1, A2, hq, h⟩ := (h.1 : tr_r_X5_readDoor ta B z u)
  have h1 := C_newName hta hE hX hq
  have no2 : ∀ (z11 : Int) (A24 : St), d_X5_readDoor_2 ta z1 z11 z u (-1) A24 → z = 0 := by
    intro z11 A24 h
    obtain ⟨_, _, h⟩ := (h : tr_d_X5_readDoor_2 ta z1 z11 z u (-1) A24)
    rcases h with ⟨c, _⟩ | ⟨_, hz, _⟩
    · exact absurd rfl c
    · exact hz
  have no1 : ∀ (A13 : St), d_X5_readDoor_1 ta z1 z u (-1) A13 → z = 0 := by
    intro A13 h
    obtain ⟨_, _, h⟩ := (h : tr_d_X5_readDoor_1 ta z1 z u (-1) A13)
    rcases h with ⟨c, _⟩ | ⟨_, h⟩
    · exact absurd rfl c
    · exact no2 _ _ h
  unfold sDoor
  cases r1 : sNew f N (tw ta B) p with
  | none =>
    rw [r1] at h1
    have h1 : z1 = -1 := h1
    rcases h with ⟨c, _⟩ | ⟨_, h⟩
    · exact absurd h1 c
    · exact no1 _ h
  | some a =>
    rw [r1] at h1
    obtain ⟨e1, n1, hC, ht⟩ := (show z1 = a.1 ∧ z1 ≠ -1 ∧ CS f N a.2 A2 ∧ tw ta A2 = tw ta B from h1)
    rcases h with ⟨_, z7, A8, hq2, h⟩ | ⟨c, _⟩
    · have h2 := C_asked_0 hta hC.1 (Or.inl hC.2) hq2
      rw [ht] at h2
      show CT f N ta ((sAsk f N (tw ta B) 0 a.2).bind _) z u
      cases r2 : sAsk f N (tw ta B) 0 a.2 with
      | none =>
        rw [r2] at h2
        have h2 : z7 = -1 := h2
        rw [h2] at h
        exact no1 _ h
      | some b =>
        rw [r2] at h2
        obtain ⟨e2, n2, hC2, ht2⟩ := (show z7 = b.1 ∧ z7 ≠ -1 ∧ CS f N b.2 A8 ∧ tw ta A8 = tw ta A2 from h2)
        obtain ⟨_, _, h⟩ := (h : tr_d_X5_readDoor_1 ta z1 z u z7 A8)
        rcases h with ⟨_, z18, A19, hq3, h⟩ | ⟨c, _⟩
        · have h3 := C_asked_0 hta hC2.1 (Or.inl hC2.2) hq3
          rw [ht2, ht] at h3
          show CT f N ta ((sAsk f N (tw ta B) 0 b.2).bind _) z u
          cases r3 : sAsk f N (tw ta B) 0 b.2 with
          | none =>
            rw [r3] at h3
            have h3 : z18 = -1 := h3
            rw [h3] at h
            exact no2 _ _ h
          | some c =>
            rw [r3] at h3
            obtain ⟨e3, n3, hC3, ht3⟩ := (show z18 = c.1 ∧ z18 ≠ -1 ∧ CS f N c.2 A19 ∧ tw ta A19 = tw ta A8 from h3)
            obtain ⟨_, _, h⟩ := (h : tr_d_X5_readDoor_2 ta z1 z7 z u z18 A19)
            show CT f N ta (if c.1 = b.1 then none else (sNum f N 1 99 c.2).bind _) z u
            rcases h with ⟨_, h⟩ | ⟨c1, _⟩
            · rcases h with ⟨c2, z29, A30, hq4, h⟩ | ⟨c2, z39, A40, hb, hz, hu⟩
              · rw [if_neg (by rw [← e3, ← e2]; exact c2)]
                have h4 := C_number hta hC3.1 (Or.inl hC3.2) hq4
                cases r4 : sNum f N 1 99 c.2 with
                | none =>
                  rw [r4] at h4
                  have h4 : z29 = -1 := h4
                  rcases h with ⟨_, hz, _⟩ | ⟨c, _⟩
                  · exact hz
                  · exact absurd h4 c
                | some d =>
                  rw [r4] at h4
                  obtain ⟨e4, n4, hC4, ht4⟩ := (show z29 = d.1 ∧ z29 ≠ -1 ∧ CS f N d.2 A30 ∧ tw ta A30 = tw ta A19 from h4)
                  rcases h with ⟨c1, _⟩ | ⟨_, z34, A35, hq5, h⟩
                  · exact absurd c1 n4
                  · have e30 : tw ta A30 = tw ta B := by rw [ht4, ht3, ht2, ht]
                    obtain ⟨g1, g2, g3⟩ := C_addDoor (by rw [e30]; exact hl) n1 hC4 hq5
                    rw [e30, e1, e2, e3, e4] at g3
                    rcases h with ⟨c1, _⟩ | ⟨_, hz, hu⟩
                    · omega
                    · rw [hu]
                      exact ⟨hz, g2, g3⟩
              · rw [if_pos (by rw [← e3, ← e2]; exact c2)]
                exact hz.trans hb.2.2.2.2
            · exact absurd c1 n3
        · exact absurd c n2
    · exact absurd c n1
/-! The class's statements, second half. -/
def bc (x : Int) : Int := (oAnd (oWrap ((oWrap ((oAnd (oWrap ((oAnd (oWrap (x - (oAnd (oUshr x 1) 1431655765))) 858993459) + (oAnd (oUshr (oWrap (x - (oAnd (oUshr x 1) 1431655765))) 2) 858993459) + (oUshr ((oAnd (oWrap (x - (oAnd (oUshr x 1) 1431655765))) 858993459) + (oAnd (oUshr (oWrap (x - (oAnd (oUshr x 1) 1431655765))) 2) 858993459)) 4))) 252645135) + (oUshr (oAnd (oWrap ((oAnd (oWrap (x - (oAnd (oUshr x 1) 1431655765))) 858993459) + (oAnd (oUshr (oWrap (x - (oAnd (oUshr x 1) 1431655765))) 2) 858993459) + (oUshr ((oAnd (oWrap (x - (oAnd (oUshr x 1) 1431655765))) 858993459) + (oAnd (oUshr (oWrap (x - (oAnd (oUshr x 1) 1431655765))) 2) 858993459)) 4))) 252645135) 8))) + (oUshr (oWrap ((oAnd (oWrap ((oAnd (oWrap (x - (oAnd (oUshr x 1) 1431655765))) 858993459) + (oAnd (oUshr (oWrap (x - (oAnd (oUshr x 1) 1431655765))) 2) 858993459) + (oUshr ((oAnd (oWrap (x - (oAnd (oUshr x 1) 1431655765))) 858993459) + (oAnd (oUshr (oWrap (x - (oAnd (oUshr x 1) 1431655765))) 2) 858993459)) 4))) 252645135) + (oUshr (oAnd (oWrap ((oAnd (oWrap (x - (oAnd (oUshr x 1) 1431655765))) 858993459) + (oAnd (oUshr (oWrap (x - (oAnd (oUshr x 1) 1431655765))) 2) 858993459) + (oUshr ((oAnd (oWrap (x - (oAnd (oUshr x 1) 1431655765))) 858993459) + (oAnd (oUshr (oWrap (x - (oAnd (oUshr x 1) 1431655765))) 2) 858993459)) 4))) 252645135) 8))) 16))) 63)
theorem C_bit {x z : Int} {A : St} (h : q_J6_bitCount_0f7a4 x A z) : z = bc x := by
  obtain ⟨_, rfl, _, rfl, _, rfl, _, rfl, _, rfl, _, rfl, _, rfl, _, rfl, _, rfl, _, rfl, _, rfl, _, rfl, _, rfl, _, rfl, hz⟩ := (h.1 : tr_r_J6_bitCount_0f7a4 x A z)
  exact hz
def sLost (f : Nat → Int) (N : Nat) (T : St) (p : Nat) : Option (St × Nat) := (sAsk f N T 1 p).bind fun a => if oAnd (oShr (T 0 15) a.1) 1 = 0 then some (stA T 0 15 (oOr (T 0 15) (oShl 1 a.1)), a.2) else none
theorem C_readLost {f : Nat → Int} {N p ta : Nat} (hta : isT ta) {B u : St} {z : Int} (hE : EK f N B) (hX : LXA f N p B) (h : q_X5_readLost ta B z u) : CT f N ta (sLost f N (tw ta B) p) z u := by
  have hIu := h.2.1
  obtain ⟨z1, A2, hq, h⟩ := (h.1 : tr_r_X5_readLost ta B z u)
  have h1 := C_asked_1 hta hE hX hq
  unfold sLost
  cases r1 : sAsk f N (tw ta B) 1 p with
  | none =>
    rw [r1] at h1
    have h1 : z1 = -1 := h1
    rcases h with ⟨c, _⟩ | ⟨_, hz, _⟩
    · exact absurd h1 c
    · exact hz
  | some a =>
    rw [r1] at h1
    obtain ⟨e1, n1, hC, ht⟩ := (show z1 = a.1 ∧ z1 ≠ -1 ∧ CS f N a.2 A2 ∧ tw ta A2 = tw ta B from h1)
    show CT f N ta (if oAnd (oShr (tw ta B 0 15) a.1) 1 = 0 then some (stA (tw ta B) 0 15 (oOr (tw ta B 0 15) (oShl 1 a.1)), a.2) else none) z u
    rcases h with ⟨_, z8, hz8, z9, hz9, h⟩ | ⟨c, _⟩
    · have e9 : z9 = oAnd (oShr (tw ta B 0 15) a.1) 1 := by rw [hz9, hz8, e1]; rfl
      rw [← e9]
      rcases h with ⟨c, z11, hz11, z12, hz12, A13, hA13, hz, hu⟩ | ⟨c, z14, A15, hb, hz, _⟩
      · rw [if_pos c]
        have hA13 : A13 = stA A2 (ta + 0) 15 z12 := hA13
        have e12 : z12 = oOr (tw ta B 0 15) (oShl 1 a.1) := by rw [hz12, hz11, e1]; rfl
        refine ⟨hz, ?_, by rw [hu, hA13, tw_st, ht, e12]⟩
        rw [hu] at hIu ⊢
        rcases hta with rfl | rfl
        · exact hC.fr (P := []) (F := [(51, 15)]) hIu (fk.df fk.rf hA13 rfl) rfl rfl rfl rfl rfl (fun _ => rfl) (fun _ => rfl) (fun _ => rfl)
        · exact hC.fr (P := []) (F := [(82, 15)]) hIu (fk.df fk.rf hA13 rfl) rfl rfl rfl rfl rfl (fun _ => rfl) (fun _ => rfl) (fun _ => rfl)
      · rw [if_neg c]
        exact hz.trans hb.2.2.2.2
    · exact absurd c n1
/-- a write into the town leaves the tokens alone -/
theorem CS.st {f : Nat → Int} {N e ta j i : Nat} {v : Int} (hta : isT ta) {A u : St} (hC : CS f N e A) (hI : IK u) (h : u = stA A (ta + j) i v) : CS f N e u := by
  have hr : 51 ≤ ta + j := by rcases hta with rfl | rfl <;> omega
  have hf : fk [ta + j] [] A u := fk.da fk.rf h (by simp)
  have hn : ∀ k, k < 51 → [ta + j].contains k = false := by
    intro k hk
    cases hc : [ta + j].contains k with
    | false => rfl
    | true =>
      have := List.contains_iff_mem.mp hc
      rw [List.mem_singleton] at this
      omega
  exact hC.fr hI hf (hn 1 (by decide)) (hn 2 (by decide)) (hn 4 (by decide)) (hn 5 (by decide)) rfl (fun _ => rfl) (fun _ => rfl) (fun _ => rfl)
def sHas (f : Nat → Int) (N : Nat) (T : St) (p : Nat) : Option (St × Nat) := (sAsk f N T 3 p).bind fun a => (sAsk f N T 2 a.2).bind fun b => if 10 ≤ T 24 b.1.toNat then some (stA T 24 b.1.toNat a.1, b.2) else none
theorem C_readHas {f : Nat → Int} {N p ta : Nat} (hta : isT ta) {B u : St} {z : Int} (hE : EK f N B) (hX : LXA f N p B) (h : q_X5_readHas ta B z u) : CT f N ta (sHas f N (tw ta B) p) z u := by
  have hIu := h.2.1
  obtain ⟨z1, A2, hq, h⟩ := (h.1 : tr_r_X5_readHas ta B z u)
  have h1 := C_asked_3 hta hE hX hq
  have no1 : ∀ (A13 : St), d_X5_readHas_1 ta z1 z u (-1) A13 → z = 0 := by
    intro A13 h
    obtain ⟨_, _, h⟩ := (h : tr_d_X5_readHas_1 ta z1 z u (-1) A13)
    rcases h with ⟨c, _⟩ | ⟨_, hz, _⟩
    · exact absurd rfl c
    · exact hz
  unfold sHas
  cases r1 : sAsk f N (tw ta B) 3 p with
  | none =>
    rw [r1] at h1
    have h1 : z1 = -1 := h1
    rcases h with ⟨c, _⟩ | ⟨_, h⟩
    · exact absurd h1 c
    · exact no1 _ h
  | some a =>
    rw [r1] at h1
    obtain ⟨e1, n1, hC, ht⟩ := (show z1 = a.1 ∧ z1 ≠ -1 ∧ CS f N a.2 A2 ∧ tw ta A2 = tw ta B from h1)
    rcases h with ⟨_, z7, A8, hq2, h⟩ | ⟨c, _⟩
    · have h2 := C_asked_2 hta hC.1 (Or.inl hC.2) hq2
      rw [ht] at h2
      show CT f N ta ((sAsk f N (tw ta B) 2 a.2).bind _) z u
      cases r2 : sAsk f N (tw ta B) 2 a.2 with
      | none =>
        rw [r2] at h2
        have h2 : z7 = -1 := h2
        rw [h2] at h
        exact no1 _ h
      | some b =>
        rw [r2] at h2
        obtain ⟨e2, n2, hC2, ht2⟩ := (show z7 = b.1 ∧ z7 ≠ -1 ∧ CS f N b.2 A8 ∧ tw ta A8 = tw ta A2 from h2)
        have e8 : tw ta A8 = tw ta B := ht2.trans ht
        obtain ⟨_, _, h⟩ := (h : tr_d_X5_readHas_1 ta z1 z u z7 A8)
        show CT f N ta (if 10 ≤ tw ta B 24 b.1.toNat then some (stA (tw ta B) 24 b.1.toNat a.1, b.2) else none) z u
        rcases h with ⟨_, z19, hz19, h⟩ | ⟨c, _⟩
        · have e19 : z19 = tw ta B 24 b.1.toNat := by rw [← e8, hz19, e2]; rfl
          rw [← e19]
          rcases h with ⟨c, A21, hA21, hz, hu⟩ | ⟨c, z22, A23, hb, hz, _⟩
          · rw [if_pos c]
            have hA21 : A21 = stA A8 (ta + 24) z7.toNat z1 := hA21
            refine ⟨hz, ?_, by rw [hu, hA21, tw_st, e8, e1, e2]⟩
            rw [hu] at hIu ⊢
            exact hC2.st hta hIu hA21
          · rw [if_neg c]
            exact hz.trans hb.2.2.2.2
        · exact absurd c n2
    · exact absurd c n1
def sMustAdd (T : St) (d a b : Int) : St := stA (stA (stA (stA T 13 (T 1 6).toNat d) 14 (T 1 6).toNat a) 15 (T 1 6).toNat b) 1 6 (T 1 6 + 1)
theorem C_addMust {f : Nat → Int} {N e ta : Nat} {x1 x2 x3 : Int} {A u : St} {z : Int} (hl : tw ta A 1 6 < 6) (hC : CS f N e A) (h : q_X9_addMust ta x1 x2 x3 A z u) : z = 1 ∧ CS f N e u ∧ tw ta u = sMustAdd (tw ta A) x1 x2 x3 := by
  have hC2 : CS f N e u := hC.fr h.2.1 h.2.2.1 rfl rfl rfl rfl rfl (fun _ => rfl) (fun _ => rfl) (fun _ => rfl)
  obtain ⟨z1, hz1, h⟩ := (h.1 : tr_r_X9_addMust ta x1 x2 x3 A z u)
  have hz1 : z1 = tw ta A 1 6 := hz1
  rcases h with ⟨_, A4, hA4, A5, hA5, A6, hA6, A11, hA11, hz, hu⟩ | ⟨c, _⟩
  · refine ⟨hz, hC2, ?_⟩
    have hA11 : A11 = stA A6 (ta + 1) 6 (z1 + 1) := hA11
    rw [hu, hA11, tw_st, hA6, tw_st, hA5, tw_st, hA4, tw_st, hz1]
    rfl
  · omega
def sMust (f : Nat → Int) (N : Nat) (T : St) (p : Nat) : Option (St × Nat) := (sAsk f N T 1 p).bind fun a => (sNum f N 0 1439 a.2).bind fun b => (sNum f N b.1 1439 b.2).bind fun c => some (sMustAdd T a.1 b.1 c.1, c.2)
theorem C_readMust {f : Nat → Int} {N p ta : Nat} (hta : isT ta) {B u : St} {z : Int} (hE : EK f N B) (hX : LXA f N p B) (hl : tw ta B 1 6 < 6) (h : q_X5_readMust ta B z u) : CT f N ta (sMust f N (tw ta B) p) z u := by
  obtain ⟨z1, A2, hq, h⟩ := (h.1 : tr_r_X5_readMust ta B z u)
  have h1 := C_asked_1 hta hE hX hq
  have no2 : ∀ (z11 : Int) (A24 : St), d_X5_readMust_2 ta z1 z11 z u (-1) A24 → z = 0 := by
    intro z11 A24 h
    obtain ⟨_, _, h⟩ := (h : tr_d_X5_readMust_2 ta z1 z11 z u (-1) A24)
    rcases h with ⟨_, hz, _⟩ | ⟨c, _⟩
    · exact hz
    · exact absurd rfl c
  have no1 : ∀ (A13 : St), d_X5_readMust_1 ta z1 z u (-1) A13 → z = 0 := by
    intro A13 h
    obtain ⟨_, _, h⟩ := (h : tr_d_X5_readMust_1 ta z1 z u (-1) A13)
    rcases h with ⟨c, _⟩ | ⟨_, h⟩
    · exact absurd rfl c
    · exact no2 _ _ h
  unfold sMust
  cases r1 : sAsk f N (tw ta B) 1 p with
  | none =>
    rw [r1] at h1
    have h1 : z1 = -1 := h1
    rcases h with ⟨c, _⟩ | ⟨_, h⟩
    · exact absurd h1 c
    · exact no1 _ h
  | some a =>
    rw [r1] at h1
    obtain ⟨e1, n1, hC, ht⟩ := (show z1 = a.1 ∧ z1 ≠ -1 ∧ CS f N a.2 A2 ∧ tw ta A2 = tw ta B from h1)
    rcases h with ⟨_, z7, A8, hq2, h⟩ | ⟨c, _⟩
    · have h2 := C_number hta hC.1 (Or.inl hC.2) hq2
      show CT f N ta ((sNum f N 0 1439 a.2).bind _) z u
      cases r2 : sNum f N 0 1439 a.2 with
      | none =>
        rw [r2] at h2
        have h2 : z7 = -1 := h2
        rw [h2] at h
        exact no1 _ h
      | some b =>
        rw [r2] at h2
        obtain ⟨e2, n2, hC2, ht2⟩ := (show z7 = b.1 ∧ z7 ≠ -1 ∧ CS f N b.2 A8 ∧ tw ta A8 = tw ta A2 from h2)
        obtain ⟨_, _, h⟩ := (h : tr_d_X5_readMust_1 ta z1 z u z7 A8)
        rcases h with ⟨_, z18, A19, hq3, h⟩ | ⟨c, _⟩
        · have h3 := C_number hta hC2.1 (Or.inl hC2.2) hq3
          rw [e2] at h3
          show CT f N ta ((sNum f N b.1 1439 b.2).bind _) z u
          cases r3 : sNum f N b.1 1439 b.2 with
          | none =>
            rw [r3] at h3
            have h3 : z18 = -1 := h3
            rw [h3] at h
            exact no2 _ _ h
          | some c =>
            rw [r3] at h3
            obtain ⟨e3, n3, hC3, ht3⟩ := (show z18 = c.1 ∧ z18 ≠ -1 ∧ CS f N c.2 A19 ∧ tw ta A19 = tw ta A8 from h3)
            obtain ⟨_, _, h⟩ := (h : tr_d_X5_readMust_2 ta z1 z7 z u z18 A19)
            rcases h with ⟨c1, _⟩ | ⟨_, z28, A29, hq4, h⟩
            · exact absurd c1 n3
            · have e19 : tw ta A19 = tw ta B := by rw [ht3, ht2, ht]
              obtain ⟨g1, g2, g3⟩ := C_addMust (by rw [e19]; exact hl) hC3 hq4
              rw [e19, e1, e2, e3] at g3
              rcases h with ⟨c1, _⟩ | ⟨_, hz, hu⟩
              · omega
              · rw [hu]
                exact ⟨hz, g2, g3⟩
        · exact absurd c n2
    · exact absurd c n1
theorem C_placeInRow {ts : Nat} {x1 x2 : Int} {A : St} {z : Int} (hx : 0 ≤ x1 ∧ x1 < 4) (h2 : x2 ≠ -1) (hs : 0 ≤ A (ts + 3) x1.toNat ∧ A (ts + 3) x1.toNat ≤ 6) (h : q_X6_placeInRow ts x1 x2 A z) : z = fnd (A (ts + 5 + x1.toNat)) x2 (A (ts + 3) x1.toNat).toNat 0 := by
  obtain ⟨nn, h⟩ := (h.1 : tr_r_X6_placeInRow ts x1 x2 A z)
  have lp : ∀ n (i : Nat), d_X6_placeInRow_1 ts x1 x2 A z n (i : Int) → z = fnd (A (ts + 5 + x1.toNat)) x2 ((A (ts + 3) x1.toNat).toNat - i) i := by
    intro n
    induction n with
    | zero => intro i h; exact h.elim
    | succ n ih =>
      intro i h
      obtain ⟨_, h⟩ := (h : tr_d_X6_placeInRow_1 ts x1 x2 A z (fun z1 => d_X6_placeInRow_1 ts x1 x2 A z n z1) i)
      rcases h with ⟨c, hz⟩ | ⟨c, h⟩
      · rw [show (A (ts + 3) x1.toNat).toNat - i = 0 by omega]
        exact hz
      · rcases h with ⟨c1, _⟩ | ⟨_, z10, hq, h⟩
        · exact absurd c1 h2
        · have hin : (i < (A (ts + 3) x1.toNat).toNat ∧ z10 = A (ts + 5 + x1.toNat) i) ∨ (¬ i < (A (ts + 3) x1.toNat).toNat ∧ z10 = -1) := by
            rcases (hq.1 : tr_r_X6_inRow ts x1 i A z10) with ⟨c2, _⟩ | ⟨_, hq⟩
            · omega
            · rcases hq with ⟨c2, _⟩ | ⟨_, hq⟩
              · omega
              · rcases hq with ⟨c2, _⟩ | ⟨_, z4, hz4, hq⟩
                · omega
                · rcases hq with ⟨c2, hz⟩ | ⟨c2, z7, hz7, hz⟩
                  · exact Or.inr ⟨by omega, hz⟩
                  · exact Or.inl ⟨by omega, by rw [hz, hz7, Int.toNat_natCast]⟩
          rcases hin with ⟨g1, g2⟩ | ⟨g1, g2⟩
          · obtain ⟨k, hk⟩ : ∃ k, (A (ts + 3) x1.toNat).toNat - i = k + 1 := ⟨(A (ts + 3) x1.toNat).toNat - i - 1, by omega⟩
            rw [hk]
            unfold fnd
            rw [← g2]
            rcases h with ⟨c3, h⟩ | ⟨c3, hz⟩
            · rw [if_neg c3]
              have := ih (i + 1) h
              rw [show (A (ts + 3) x1.toNat).toNat - (i + 1) = k by omega] at this
              exact this
            · rw [if_pos c3]
              exact hz
          · rcases h with ⟨c3, h⟩ | ⟨c3, hz⟩
            · have := ih (i + 1) h
              rw [show (A (ts + 3) x1.toNat).toNat - (i + 1) = 0 by omega] at this
              rw [show (A (ts + 3) x1.toNat).toNat - i = 0 by omega]
              exact this
            · exact absurd (g2.symm.trans c3) (fun e => h2 e.symm)
  exact lp nn 0 h
def sPush (T : St) (key door : Int) : Option St := if fnd (T (27 + key.toNat)) door (T 25 key.toNat).toNat 0 = -1 ∧ T 25 key.toNat < 6 then some (stA (stA T (27 + key.toNat) (T 25 key.toNat).toNat door) 25 key.toNat (T 25 key.toNat + 1)) else none
theorem C_push {f : Nat → Int} {N e ta : Nat} (hta : isT ta) {x1 x2 : Int} {A u : St} {z : Int} (hx : 0 ≤ x1 ∧ x1 < 4) (h2 : x2 ≠ -1) (hC : CS f N e A) (h : q_X6_push (ta + 22) x1 x2 A z u) : match sPush (tw ta A) x1 x2 with
    | none => z = 0
    | some T => z = 1 ∧ CS f N e u ∧ tw ta u = T := by
  have hC2 : CS f N e u := hC.fr h.2.1 h.2.2.1 rfl rfl rfl rfl rfl (fun _ => rfl) (fun _ => rfl) (fun _ => rfl)
  have hs : 0 ≤ A (ta + 22 + 3) x1.toNat ∧ A (ta + 22 + 3) x1.toNat ≤ 6 := irSz hta.s hC.1.1
  have er : ta + 22 + 5 + x1.toNat = ta + (27 + x1.toNat) := by omega
  unfold sPush
  rcases (h.1 : tr_r_X6_push (ta + 22) x1 x2 A z u) with ⟨c, _⟩ | ⟨_, h⟩
  · omega
  · rcases h with ⟨c, _⟩ | ⟨_, z3, hq, h⟩
    · omega
    · have e3 : z3 = fnd (tw ta A (27 + x1.toNat)) x2 (tw ta A 25 x1.toNat).toNat 0 := by
        rw [C_placeInRow hx h2 hs hq, er]
        rfl
      rw [← e3]
      rcases h with ⟨c, z7, hz7, h⟩ | ⟨c, hz, _⟩
      · have hz7 : z7 = tw ta A 25 x1.toNat := hz7
        rw [← hz7]
        rcases h with ⟨c2, A10, hA10, A11, hA11, hz, hu⟩ | ⟨c2, hz, _⟩
        · rw [if_pos ⟨c, c2⟩]
          refine ⟨hz, hC2, ?_⟩
          rw [er] at hA10
          have hA11 : A11 = stA A10 (ta + 25) x1.toNat (z7 + 1) := hA11
          rw [hu, hA11, tw_st, hA10, tw_st]
        · rw [if_neg (fun g => c2 g.2)]
          exact hz
      · rw [if_neg (fun g => c g.1)]
        exact hz
def sShut (f : Nat → Int) (N : Nat) (T : St) (p : Nat) : Option (St × Nat) := (sAsk f N T 1 p).bind fun a => (sOwn f N 14 a.2).bind fun b => (sAsk f N T 2 b).bind fun c => (sPush T c.1 a.1).bind fun t => some (t, c.2)
theorem C_readShut {f : Nat → Int} {N p ta : Nat} (hta : isT ta) {B u : St} {z : Int} (hE : EK f N B) (hX : LXA f N p B) (h : q_X5_readShut ta B z u) : CT f N ta (sShut f N (tw ta B) p) z u := by
  obtain ⟨z1, A2, hq, h⟩ := (h.1 : tr_r_X5_readShut ta B z u)
  have h1 := C_asked_1 hta hE hX hq
  unfold sShut
  cases r1 : sAsk f N (tw ta B) 1 p with
  | none =>
    rw [r1] at h1
    have h1 : z1 = -1 := h1
    rcases h with ⟨_, hz, _⟩ | ⟨c, _⟩
    · exact hz
    · exact absurd h1 c
  | some a =>
    rw [r1] at h1
    obtain ⟨e1, n1, hC, ht⟩ := (show z1 = a.1 ∧ z1 ≠ -1 ∧ CS f N a.2 A2 ∧ tw ta A2 = tw ta B from h1)
    rcases h with ⟨c, _⟩ | ⟨_, z6, A7, hq2, h⟩
    · exact absurd c n1
    · have h2 := C_ownWord hta (k := 14) (by decide) rfl hC.1 (Or.inl hC.2) hq2
      show CT f N ta ((sOwn f N 14 a.2).bind _) z u
      cases r2 : sOwn f N 14 a.2 with
      | none =>
        rw [r2] at h2
        have h2 : z6 = 0 := h2
        rcases h with ⟨c, _⟩ | ⟨_, hz, _⟩
        · exact absurd h2 c
        · exact hz
      | some b =>
        rw [r2] at h2
        obtain ⟨n2, hC2, ht2⟩ := (show z6 = 1 ∧ CS f N b A7 ∧ tw ta A7 = tw ta A2 from h2)
        rcases h with ⟨_, z11, A12, hq3, h⟩ | ⟨c, _⟩
        · have h3 := C_asked_2 hta hC2.1 (Or.inl hC2.2) hq3
          rw [ht2, ht] at h3
          show CT f N ta ((sAsk f N (tw ta B) 2 b).bind _) z u
          cases r3 : sAsk f N (tw ta B) 2 b with
          | none =>
            rw [r3] at h3
            have h3 : z11 = -1 := h3
            rcases h with ⟨c, _⟩ | ⟨_, hz, _⟩
            · exact absurd h3 c
            · exact hz
          | some c =>
            rw [r3] at h3
            obtain ⟨e3, n3, hC3, ht3⟩ := (show z11 = c.1 ∧ z11 ≠ -1 ∧ CS f N c.2 A12 ∧ tw ta A12 = tw ta A7 from h3)
            have e12 : tw ta A12 = tw ta B := by rw [ht3, ht2, ht]
            have b11 := hq3.2.2.2
            show CT f N ta ((sPush (tw ta B) c.1 a.1).bind _) z u
            rcases h with ⟨_, z16, A17, hq4, h⟩ | ⟨c1, _⟩
            · have h4 := C_push hta (by omega) n1 hC3 hq4
              rw [e12, e1, e3] at h4
              cases r4 : sPush (tw ta B) c.1 a.1 with
              | none =>
                rw [r4] at h4
                have h4 : z16 = 0 := h4
                rcases h with ⟨c, _⟩ | ⟨_, z21, A22, _, hz, _⟩
                · exact absurd h4 c
                · exact hz
              | some t =>
                rw [r4] at h4
                obtain ⟨g1, g2, g3⟩ := (show z16 = 1 ∧ CS f N c.2 A17 ∧ tw ta A17 = t from h4)
                rcases h with ⟨_, hz, hu⟩ | ⟨c, _⟩
                · rw [hu]
                  exact ⟨hz, g2, g3⟩
                · omega
            · exact absurd c1 n3
        · omega
def sWants (f : Nat → Int) (N : Nat) (T : St) (p : Nat) : Option (St × Nat) := (sAsk f N T 3 p).bind fun a => if bc (T 12 a.1.toNat) < 2 then ((sAsk f N T 4 a.2).bind fun b => if oAnd (oShr (T 12 a.1.toNat) b.1) 1 = 0 then some (stA (stA T 12 a.1.toNat (oOr (T 12 a.1.toNat) (oShl 1 b.1))) 1 5 (T 1 5 + 1), b.2) else none) else none
theorem C_readWants {f : Nat → Int} {N p ta : Nat} (hta : isT ta) {B u : St} {z : Int} (hE : EK f N B) (hX : LXA f N p B) (h : q_X5_readWants ta B z u) : CT f N ta (sWants f N (tw ta B) p) z u := by
  have hIu := h.2.1
  have hfu := h.2.2.1
  obtain ⟨z1, A2, hq, h⟩ := (h.1 : tr_r_X5_readWants ta B z u)
  have h1 := C_asked_3 hta hE hX hq
  unfold sWants
  cases r1 : sAsk f N (tw ta B) 3 p with
  | none =>
    rw [r1] at h1
    have h1 : z1 = -1 := h1
    rcases h with ⟨c, _⟩ | ⟨_, hz, _⟩
    · exact absurd h1 c
    · exact hz
  | some a =>
    rw [r1] at h1
    obtain ⟨e1, n1, hC, ht⟩ := (show z1 = a.1 ∧ z1 ≠ -1 ∧ CS f N a.2 A2 ∧ tw ta A2 = tw ta B from h1)
    show CT f N ta (if bc (tw ta B 12 a.1.toNat) < 2 then ((sAsk f N (tw ta B) 4 a.2).bind _) else none) z u
    rcases h with ⟨_, z7, hz7, z8, hbc, h⟩ | ⟨c, _⟩
    · have e7 : z7 = tw ta B 12 a.1.toNat := by rw [← ht, hz7, e1]; rfl
      have e8 : z8 = bc (tw ta B 12 a.1.toNat) := by rw [C_bit hbc, e7]
      rw [← e8]
      rcases h with ⟨c, z12, A13, hq2, h⟩ | ⟨c, z35, A36, hb, hz, _⟩
      · rw [if_pos c]
        have h2 := C_asked_4 hta hC.1 (Or.inl hC.2) hq2
        rw [ht] at h2
        cases r2 : sAsk f N (tw ta B) 4 a.2 with
        | none =>
          rw [r2] at h2
          have h2 : z12 = -1 := h2
          rcases h with ⟨c, _⟩ | ⟨_, hz, _⟩
          · exact absurd h2 c
          · exact hz
        | some b =>
          rw [r2] at h2
          obtain ⟨e2, n2, hC2, ht2⟩ := (show z12 = b.1 ∧ z12 ≠ -1 ∧ CS f N b.2 A13 ∧ tw ta A13 = tw ta A2 from h2)
          have e13 : tw ta A13 = tw ta B := ht2.trans ht
          show CT f N ta (if oAnd (oShr (tw ta B 12 a.1.toNat) b.1) 1 = 0 then some (stA (stA (tw ta B) 12 a.1.toNat (oOr (tw ta B 12 a.1.toNat) (oShl 1 b.1))) 1 5 (tw ta B 1 5 + 1), b.2) else none) z u
          rcases h with ⟨_, z19, hz19, z20, hz20, h⟩ | ⟨c, _⟩
          · have e20 : z20 = oAnd (oShr (tw ta B 12 a.1.toNat) b.1) 1 := by rw [hz20, hz19, e7, e2]
            rw [← e20]
            rcases h with ⟨c, z23, hz23, z24, hz24, A25, hA25, z29, hz29, A30, hA30, hz, hu⟩ | ⟨c, z31, A32, hb, hz, _⟩
            · rw [if_pos c]
              have e24 : z24 = oOr (tw ta B 12 a.1.toNat) (oShl 1 b.1) := by rw [hz24, hz23, e7, e2]
              have t25 : tw ta A25 = stA (tw ta B) 12 a.1.toNat (oOr (tw ta B 12 a.1.toNat) (oShl 1 b.1)) := by rw [hA25, tw_st, e13, e1, e24]
              have e29 : z29 = tw ta B 1 5 := by
                have : z29 = tw ta A25 1 5 := hz29
                rw [this, t25]
                rfl
              have hA30 : A30 = stA A25 (ta + 1) 5 (z29 + 1) := hA30
              refine ⟨hz, ?_, by rw [hu, hA30, tw_st, t25, e29]⟩
              refine ⟨hE.fr hIu hfu rfl rfl rfl rfl (fun _ => rfl) (fun _ => rfl), ?_⟩
              have g : ∀ k, u 5 k = A13 5 k := by
                intro k
                rw [hu, hA30, stA_ne _ _ (by rcases hta with rfl | rfl <;> omega), hA25, stA_ne _ _ (by rcases hta with rfl | rfl <;> omega)]
              unfold LX0
              rw [g 6, g 1, g 5]
              exact hC2.2
            · rw [if_neg c]
              exact hz.trans hb.2.2.2.2
          · exact absurd c n2
      · rw [if_neg c]
        exact hz.trans hb.2.2.2.2
    · exact absurd c n1
/-! The class's tests: sums. -/
theorem CP.pos {f : Nat → Int} {N ta p : Nat} {B u : St} {r : Option Nat} {z : Int} (h : CP f N ta p B r z u) (hz : ¬ z = 0) : ∃ e, r = some e ∧ CS f N e u ∧ tw ta u = tw ta B := by
  cases r with
  | none => exact absurd h.1 hz
  | some e => exact ⟨e, rfl, h.2⟩
theorem CP.neg {f : Nat → Int} {N ta p : Nat} {B u : St} {r : Option Nat} {z : Int} (h : CP f N ta p B r z u) (hz : z = 0) : r = none ∧ EK f N u ∧ LX1 f N p u ∧ tw ta u = tw ta B := by
  cases r with
  | none => exact ⟨rfl, h.2⟩
  | some e => exact absurd (h.1.symm.trans hz) (by decide)
theorem CQ.pos {f : Nat → Int} {N ta : Nat} {B u : St} {r : Option Nat} {z : Int} (h : CQ f N ta B r z u) (hz : ¬ z = 0) : ∃ e, r = some e ∧ CS f N e u ∧ tw ta u = tw ta B := by
  cases r with
  | none => exact absurd h hz
  | some e => exact ⟨e, rfl, h.2⟩
theorem CQ.neg {f : Nat → Int} {N ta : Nat} {B u : St} {r : Option Nat} {z : Int} (h : CQ f N ta B r z u) (hz : z = 0) : r = none := by
  cases r with
  | none => rfl
  | some e => exact absurd (h.1.symm.trans hz) (by decide)
/-- an answer of a reader of a test -/
def CA (f : Nat → Int) (N ta : Nat) (r : Option (St × Nat)) (z : Int) (u : St) : Prop := match r with
  | none => z = 0
  | some a => z = 1 ∧ EK f N u ∧ LXA f N a.2 u ∧ tw ta u = a.1
theorem CA.pos {f : Nat → Int} {N ta : Nat} {u : St} {r : Option (St × Nat)} {z : Int} (h : CA f N ta r z u) (hz : ¬ z = 0) : ∃ a, r = some a ∧ EK f N u ∧ LXA f N a.2 u ∧ tw ta u = a.1 := by
  cases r with
  | none => exact absurd h hz
  | some e => exact ⟨e, rfl, h.2⟩
theorem CA.neg {f : Nat → Int} {N ta : Nat} {u : St} {r : Option (St × Nat)} {z : Int} (h : CA f N ta r z u) (hz : z = 0) : r = none := by
  cases r with
  | none => rfl
  | some e => exact absurd (h.1.symm.trans hz) (by decide)
theorem LXA.fr {f : Nat → Int} {N p : Nat} {A u : St} (h : LXA f N p A) (g : ∀ k, u 5 k = A 5 k) : LXA f N p u := by
  rcases h with h | h
  · left
    unfold LX0
    rw [g 6, g 1, g 5]
    exact h
  · right
    unfold LX1 LV
    rw [g 6, g 2, g 1, g 5, g 4]
    exact h
def sAdC (T : St) (x : Int) : Option St := if T 19 2 < 1600 then some (stA (stA T 20 (T 19 2).toNat x) 19 2 (T 19 2 + 1)) else none
theorem C_adC {f : Nat → Int} {N ta p : Nat} {x z : Int} {A u : St} (hE : EK f N A) (hX : LXA f N p A) (h : q_X8_add (ta + 19) x A z u) : (z = 0 ∧ sAdC (tw ta A) x = none) ∨ (z = 1 ∧ EK f N u ∧ LXA f N p u ∧ sAdC (tw ta A) x = some (tw ta u)) := by
  have hE2 : EK f N u := hE.fr h.2.1 h.2.2.1 rfl rfl rfl rfl (fun _ => rfl) (fun _ => rfl)
  have hX2 : LXA f N p u := hX.fr (fun k => h.2.2.1 5 k rfl rfl)
  unfold sAdC
  rcases (h.1 : tr_r_X8_add (ta + 19) x A z u) with ⟨c, A4, hA4, A6, hA6, hz, hu⟩ | ⟨c, hz, _⟩
  · have c : tw ta A 19 2 < 1600 := c
    rw [if_pos c]
    refine Or.inr ⟨hz, hE2, hX2, ?_⟩
    have hA4 : A4 = stA A (ta + 20) (tw ta A 19 2).toNat x := hA4
    have hA6 : A6 = stA A4 (ta + 19) 2 (tw ta A 19 2 + 1) := hA6
    rw [hu, hA6, tw_st, hA4, tw_st]
  · have c : ¬ tw ta A 19 2 < 1600 := c
    rw [if_neg c]
    exact Or.inl ⟨hz, rfl⟩
theorem C_enter {f : Nat → Int} {N ta p : Nat} (hta : isT ta) {z : Int} {A u : St} (hE : EK f N A) (hX : LXA f N p A) (h : q_X5_enter A z u) : (z = 0 ∧ ¬ A 3 4 < 8) ∨ (z = 1 ∧ A 3 4 < 8 ∧ EK f N u ∧ LXA f N p u ∧ tw ta u = tw ta A ∧ u 3 4 = A 3 4 + 1) := by
  have hE2 : EK f N u := hE.fr h.2.1 h.2.2.1 rfl rfl rfl rfl (fun _ => rfl) (fun _ => rfl)
  have hX2 : LXA f N p u := hX.fr (fun k => h.2.2.1 5 k rfl rfl)
  have ht : tw ta u = tw ta A := tw_fk hta h.2.2.1 rfl
  have h4 := h.2.2.2.2
  rcases (h.1 : tr_r_X5_enter A z u) with ⟨c, A3, hA3, hz, hu⟩ | ⟨c, z5, A6, hb, hz, _⟩
  · exact Or.inr ⟨hz, c, hE2, hX2, ht, (h4 hz).1⟩
  · exact Or.inl ⟨hz.trans hb.2.2.2.2, c⟩
theorem C_leave {f : Nat → Int} {N ta p : Nat} (hta : isT ta) {z : Int} {A u : St} (hE : EK f N A) (hX : LXA f N p A) (h : q_X5_leave A z u) : EK f N u ∧ LXA f N p u ∧ tw ta u = tw ta A := ⟨hE.fr h.2.1 h.2.2.1 rfl rfl rfl rfl (fun _ => rfl) (fun _ => rfl), hX.fr (fun k => h.2.2.1 5 k rfl rfl), tw_fk hta h.2.2.1 rfl⟩
abbrev PT := St → Nat → Option (St × Nat)
def sPair (f : Nat → Int) (N n : Nat) (S : PT) : PT := fun T p => (sSign f N 40 p).bind fun p1 => if n = 0 then none else (S T p1).bind fun a => (sSign f N 44 a.2).bind fun p2 => (S a.1 p2).bind fun b => (sSign f N 41 b.2).bind fun p3 => some (b.1, p3)
def sAd2 (r : Option (St × Nat)) (x : Int) : Option (St × Nat) := r.bind fun a => (sAdC a.1 x).bind fun t => some (t, a.2)
def sPart (f : Nat → Int) (N n : Nat) (S : PT) : PT := fun T p =>
  if tKind f N p = 2 then sAd2 (some (T, tEnd f N p)) (nv f N p)
  else match sSign f N 40 p with
  | some p1 => if n = 0 then none else (S T p1).bind fun a => (sSign f N 41 a.2).bind fun p2 => some (a.1, p2)
  | none => match sOwn f N 20 p with
    | some e => sAd2 (some (T, e)) (-1)
    | none => match sOwn f N 21 p with
      | some e => sAd2 (some (T, e)) (-2)
      | none => match sOwn f N 22 p with
        | some e => sAd2 (some (T, e)) (-3)
        | none => match sOwn f N 23 p with
          | some e => sAd2 (some (T, e)) (-4)
          | none => match sOwn f N 24 p with
            | some e => sAd2 (sPair f N n S T e) (-17)
            | none => match sOwn f N 25 p with
              | some e => sAd2 (sPair f N n S T e) (-18)
              | none => none
/-- what the relation of a deeper reader says of its spec -/
def HS (f : Nat → Int) (N ta : Nat) (m : Int) (SS : St → Int → St → Prop) (S : PT) : Prop := ∀ (A : St) (z : Int) (u : St) (p : Nat), EK f N A → LXA f N p A → A 3 4 = m → q_SS_sum SS A z u → CA f N ta (S (tw ta A) p) z u
theorem C_pair {f : Nat → Int} {N ta n b : Nat} (hta : isT ta) (hn : n + b = 8) {SS : St → Int → St → Prop} {S : PT} (hS : 0 < n → HS f N ta ((b : Int) + 1) SS S) {A u : St} {z : Int} {p : Nat} (hE : EK f N A) (hX : LXA f N p A) (h4 : A 3 4 = (b : Int)) (h : q_X5_readPair SS b (ta + 19) A z u) : CA f N ta (sPair f N n S (tw ta A) p) z u := by
  obtain ⟨z1, A2, hq, h⟩ := (h.1 : tr_r_X5_readPair SS b (ta + 19) A z u)
  have h1 := C_sign hta (by decide) hE hX hq
  unfold sPair
  rcases h with ⟨c, hz, _⟩ | ⟨c, z10, A11, hq2, h⟩
  · rw [h1.neg c]
    exact hz
  · obtain ⟨p1, r1, hC, ht⟩ := h1.pos c
    have g4 : A2 3 4 = (b : Int) := (hq.2.2.1 3 4 rfl rfl).trans h4
    rw [r1]
    show CA f N ta (if n = 0 then none else _) z u
    rcases C_enter hta hC.1 (Or.inl hC.2) hq2 with ⟨e1, e2⟩ | ⟨e1, e2, hE3, hX3, ht3, g43⟩
    · rw [if_pos (by omega)]
      rcases h with ⟨_, hz, _⟩ | ⟨c, _⟩
      · exact hz
      · exact absurd e1 c
    · rw [if_neg (by omega)]
      rcases h with ⟨c, _⟩ | ⟨_, z16, A17, hq3, h⟩
      · omega
      · have h3 := hS (by omega) A11 z16 A17 p1 hE3 hX3 (by omega) hq3
        rw [ht3, ht] at h3
        rcases h with ⟨c, hz, _⟩ | ⟨c, z22, A23, hq4, h⟩
        · rw [h3.neg c]
          exact hz
        · obtain ⟨a, r3, hE4, hX4, ht4⟩ := h3.pos c
          rw [r3]
          have z16e : z16 = 1 := by have := hq3.2.2.2.1; omega
          have g5 : A17 3 4 = A11 3 4 := hq3.2.2.2.2 z16e
          have h5 := C_sign hta (by decide) hE4 hX4 hq4
          show CA f N ta ((sSign f N 44 a.2).bind _) z u
          rcases h with ⟨c, hz, _⟩ | ⟨c, z29, A30, hq5, h⟩
          · rw [h5.neg c]
            exact hz
          · obtain ⟨p2, r5, hC5, ht5⟩ := h5.pos c
            rw [r5]
            have g6 : A23 3 4 = A17 3 4 := hq4.2.2.1 3 4 rfl rfl
            have h6 := hS (by omega) A23 z29 A30 p2 hC5.1 (Or.inl hC5.2) (by omega) hq5
            rw [ht5, ht4] at h6
            show CA f N ta ((S a.1 p2).bind _) z u
            rcases h with ⟨c, hz, _⟩ | ⟨c, z35, A36, hq6, h⟩
            · rw [h6.neg c]
              exact hz
            · obtain ⟨b6, r6, hE6, hX6, ht6⟩ := h6.pos c
              rw [r6]
              have h7 := C_sign hta (by decide) hE6 hX6 hq6
              show CA f N ta ((sSign f N 41 b6.2).bind _) z u
              rcases h with ⟨c, hz, _⟩ | ⟨c, z42, A43, hq7, hz, hu⟩
              · rw [h7.neg c]
                exact hz
              · obtain ⟨p3, r7, hC7, ht7⟩ := h7.pos c
                rw [r7]
                obtain ⟨k1, k2, k3⟩ := C_leave hta hC7.1 (Or.inl hC7.2) hq7
                rw [hu]
                exact ⟨hz, k1, k2, by rw [k3, ht7, ht6]⟩
theorem C_ad2 {f : Nat → Int} {N ta : Nat} {x z z2 : Int} {A u u2 : St} {a : St × Nat} (hE : EK f N A) (hX : LXA f N a.2 A) (ht : tw ta A = a.1) (h : q_X8_add (ta + 19) x A z u) (hz : z2 = z) (hu : u2 = u) : CA f N ta (sAd2 (some a) x) z2 u2 := by
  unfold sAd2
  show CA f N ta ((sAdC a.1 x).bind _) z2 u2
  rw [← ht]
  rcases C_adC hE hX h with ⟨e1, e2⟩ | ⟨e1, e2, e3, e4⟩
  · rw [e2]
    exact hz.trans e1
  · rw [e4, hu]
    exact ⟨hz.trans e1, e2, e3, rfl⟩
theorem C_part {f : Nat → Int} {N ta n b : Nat} (hta : isT ta) (hn : n + b = 8) {SS : St → Int → St → Prop} {S : PT} (hS : 0 < n → HS f N ta ((b : Int) + 1) SS S) {A u : St} {z : Int} {p : Nat} (hE : EK f N A) (hX : LXA f N p A) (h4 : A 3 4 = (b : Int)) (h : q_X5_readPart SS b (ta + 19) A z u) : CA f N ta (sPart f N n S (tw ta A) p) z u := by
  obtain ⟨A1, hq, h⟩ := (h.1 : tr_r_X5_readPart SS b (ta + 19) A z u)
  obtain ⟨hE1, hX1⟩ := lookA hE hX hq
  have ht1 : tw ta A1 = tw ta A := tw_fk hta hq.2.2.1 rfl
  have g1 : A1 3 4 = (b : Int) := (hq.2.2.1 3 4 rfl rfl).trans h4
  have k2 := hX1.2.2.1
  unfold sPart
  rcases h with ⟨c, z6, A7, hq1, h⟩ | ⟨c, A168, hp, z173, A174, hq1, hz, hu⟩
  · rw [if_neg (by omega)]
    have h1 := C_passesSign hta (by decide) hE1 (Or.inr hX1) hq1
    have g7 : A7 3 4 = (b : Int) := (hq1.2.2.1 3 4 rfl rfl).trans g1
    have ad : ∀ {k : Nat} {x zz : Int} {B u' : St} {e : Nat}, CS f N e B → tw ta B = tw ta A → q_X8_add (ta + 19) x B zz u' → z = zz → u = u' → CA f N ta (sAd2 (some (tw ta A, e)) x) z u := fun hC ht hq hz hu => C_ad2 hC.1 (Or.inl hC.2) ht hq hz hu
    have pr : ∀ {x z1 : Int} {B B1 : St} {e : Nat}, CS f N e B → tw ta B = tw ta A → B 3 4 = (b : Int) → q_X5_readPair SS b (ta + 19) B z1 B1 → ((z1 = 0 ∧ z = 0 ∧ u = B1) ∨ (¬ z1 = 0 ∧ ∃ (z2 : Int) (B2 : St), q_X8_add (ta + 19) x B1 z2 B2 ∧ ((z2 = 0 ∧ z = 0 ∧ u = B2) ∨ (¬ z2 = 0 ∧ z = 1 ∧ u = B2)))) → CA f N ta (sAd2 (sPair f N n S (tw ta A) e) x) z u := by
      intro x z1 B B1 e hC ht hb hq h
      have h1 := C_pair hta hn hS hC.1 (Or.inl hC.2) hb hq
      rw [ht] at h1
      rcases h with ⟨c, hz, _⟩ | ⟨c, z2, B2, hq2, h⟩
      · unfold sAd2
        rw [h1.neg c]
        exact hz
      · obtain ⟨a, r, hE2, hX2, ht2⟩ := h1.pos c
        rw [r]
        have b2 := hq2.2.2.2
        rcases h with ⟨c, hz, hu⟩ | ⟨c, hz, hu⟩
        · exact C_ad2 hE2 hX2 ht2 hq2 (hz.trans c.symm) hu
        · exact C_ad2 hE2 hX2 ht2 hq2 (by omega) hu
    rcases h with ⟨c1, z11, A12, hq2, h⟩ | ⟨c1, z143, A144, hq2, h⟩
    · obtain ⟨r1, hE2, hX2, ht2⟩ := h1.neg c1
      rw [r1]
      have h2 := C_passesWord hta (k := 20) (by decide) rfl hE2 (Or.inr hX2) hq2
      have g12 : A12 3 4 = (b : Int) := (hq2.2.2.1 3 4 rfl rfl).trans g7
      rcases h with ⟨c2, z16, A17, hq3, h⟩ | ⟨c2, z131, A132, hq3, hz, hu⟩
      · obtain ⟨r2, hE3, hX3, ht3⟩ := h2.neg c2
        rw [r2]
        have h3 := C_passesWord hta (k := 21) (by decide) rfl hE3 (Or.inr hX3) hq3
        have g17 : A17 3 4 = (b : Int) := (hq3.2.2.1 3 4 rfl rfl).trans g12
        rcases h with ⟨c3, z21, A22, hq4, h⟩ | ⟨c3, z121, A122, hq4, hz, hu⟩
        · obtain ⟨r3, hE4, hX4, ht4⟩ := h3.neg c3
          rw [r3]
          have h5 := C_passesWord hta (k := 22) (by decide) rfl hE4 (Or.inr hX4) hq4
          have g22 : A22 3 4 = (b : Int) := (hq4.2.2.1 3 4 rfl rfl).trans g17
          rcases h with ⟨c4, z26, A27, hq5, h⟩ | ⟨c4, z110, A111, hq5, hz, hu⟩
          · obtain ⟨r4, hE5, hX5, ht5⟩ := h5.neg c4
            rw [r4]
            have h6 := C_passesWord hta (k := 23) (by decide) rfl hE5 (Or.inr hX5) hq5
            have g27 : A27 3 4 = (b : Int) := (hq5.2.2.1 3 4 rfl rfl).trans g22
            rcases h with ⟨c5, z31, A32, hq6, h⟩ | ⟨c5, z98, A99, hq6, hz, hu⟩
            · obtain ⟨r5, hE6, hX6, ht6⟩ := h6.neg c5
              rw [r5]
              have h7 := C_passesWord hta (k := 24) (by decide) rfl hE6 (Or.inr hX6) hq6
              have g32 : A32 3 4 = (b : Int) := (hq6.2.2.1 3 4 rfl rfl).trans g27
              rcases h with ⟨c6, z36, A37, hq7, h⟩ | ⟨c6, z85, A86, hq7, h⟩
              · obtain ⟨r6, hE7, hX7, ht7⟩ := h7.neg c6
                rw [r6]
                have h8 := C_passesWord hta (k := 25) (by decide) rfl hE7 (Or.inr hX7) hq7
                have g37 : A37 3 4 = (b : Int) := (hq7.2.2.1 3 4 rfl rfl).trans g32
                rcases h with ⟨c7, z41, A42, hb, hz, _⟩ | ⟨c7, z64, A65, hq8, h⟩
                · rw [(h8.neg c7).1]
                  exact hz.trans hb.2.2.2.2
                · obtain ⟨e, r7, hC, ht⟩ := h8.pos c7
                  rw [r7]
                  exact pr hC (by rw [ht, ht7, ht6, ht5, ht4, ht3, ht2, ht1]) g37 hq8 h
              · obtain ⟨e, r6, hC, ht⟩ := h7.pos c6
                rw [r6]
                exact pr hC (by rw [ht, ht6, ht5, ht4, ht3, ht2, ht1]) g32 hq7 h
            · obtain ⟨e, r5, hC, ht⟩ := h6.pos c5
              rw [r5]
              exact C_ad2 hC.1 (Or.inl hC.2) (by rw [ht, ht5, ht4, ht3, ht2, ht1]) hq6 hz hu
          · obtain ⟨e, r4, hC, ht⟩ := h5.pos c4
            rw [r4]
            exact C_ad2 hC.1 (Or.inl hC.2) (by rw [ht, ht4, ht3, ht2, ht1]) hq5 hz hu
        · obtain ⟨e, r3, hC, ht⟩ := h3.pos c3
          rw [r3]
          exact C_ad2 hC.1 (Or.inl hC.2) (by rw [ht, ht3, ht2, ht1]) hq4 hz hu
      · obtain ⟨e, r2, hC, ht⟩ := h2.pos c2
        rw [r2]
        exact C_ad2 hC.1 (Or.inl hC.2) (by rw [ht, ht2, ht1]) hq3 hz hu
    · obtain ⟨p1, r1, hC, ht⟩ := h1.pos c1
      rw [r1]
      show CA f N ta (if n = 0 then none else _) z u
      rcases C_enter hta hC.1 (Or.inl hC.2) hq2 with ⟨e1, e2⟩ | ⟨e1, e2, hE3, hX3, ht3, g43⟩
      · rw [if_pos (by omega)]
        rcases h with ⟨_, hz, _⟩ | ⟨c, _⟩
        · exact hz
        · exact absurd e1 c
      · rw [if_neg (by omega)]
        rcases h with ⟨c, _⟩ | ⟨_, z149, A150, hq3, h⟩
        · omega
        · have h3 := hS (by omega) A144 z149 A150 p1 hE3 hX3 (by omega) hq3
          rw [ht3, ht, ht1] at h3
          rcases h with ⟨c, hz, _⟩ | ⟨c, z155, A156, hq4, h⟩
          · rw [h3.neg c]
            exact hz
          · obtain ⟨a, r3, hE4, hX4, ht4⟩ := h3.pos c
            rw [r3]
            have h5 := C_sign hta (by decide) hE4 hX4 hq4
            show CA f N ta ((sSign f N 41 a.2).bind _) z u
            rcases h with ⟨c, hz, _⟩ | ⟨c, z162, A163, hq5, hz, hu⟩
            · rw [h5.neg c]
              exact hz
            · obtain ⟨p2, r5, hC5, ht5⟩ := h5.pos c
              rw [r5]
              obtain ⟨k1, k2, k3⟩ := C_leave hta hC5.1 (Or.inl hC5.2) hq5
              rw [hu]
              exact ⟨hz, k1, k2, by rw [k3, ht5, ht4]⟩
  · have tk : tKind f N p = 2 := by omega
    rw [if_pos tk]
    have hv : A1 5 4 = nv f N p := hX1.2.2.2.2.2.1 tk
    have hP := passX hE1 hX1 (by omega) hp
    rw [hv] at hq1
    exact C_ad2 hP.1 (Or.inl hP.2.1) ((tw_fk hta hp.2.2.1 rfl).trans ht1) hq1 hz hu
/-! The class's tests: products, sums, facts. -/
def sProdL (f : Nat → Int) (N n : Nat) (S : PT) : Nat → PT
  | 0 => fun _ _ => none
  | k + 1 => fun T p => match sSign f N 47 p with
    | some e => (sAd2 (sPart f N n S T e) (-15)).bind fun a => sProdL f N n S k a.1 a.2
    | none => match sSign f N 37 p with
      | some e => (sAd2 (sPart f N n S T e) (-16)).bind fun a => sProdL f N n S k a.1 a.2
      | none => match sSign f N 42 p with
        | some e => (sAd2 (sPart f N n S T e) (-14)).bind fun a => sProdL f N n S k a.1 a.2
        | none => some (T, p)
def sProd (f : Nat → Int) (N n : Nat) (S : PT) : PT := fun T p => (sPart f N n S T p).bind fun a => sProdL f N n S 1600 a.1 a.2
def sSumL (f : Nat → Int) (N n : Nat) (S : PT) : Nat → PT
  | 0 => fun _ _ => none
  | k + 1 => fun T p => match sSign f N 45 p with
    | some e => (sAd2 (sProd f N n S T e) (-13)).bind fun a => sSumL f N n S k a.1 a.2
    | none => match sSign f N 43 p with
      | some e => (sAd2 (sProd f N n S T e) (-12)).bind fun a => sSumL f N n S k a.1 a.2
      | none => some (T, p)
def sSum (f : Nat → Int) (N n : Nat) (S : PT) : PT := fun T p => (sProd f N n S T p).bind fun a => sSumL f N n S 1600 a.1 a.2
def sSumN (f : Nat → Int) (N : Nat) : Nat → PT
  | 0 => sSum f N 0 (fun _ _ => none)
  | n + 1 => sSum f N (n + 1) (sSumN f N n)
/-- a turn of a loop: a reader, then a code -/
theorem C_turn {f : Nat → Int} {N ta k : Nat} {x z1 z z2 : Int} {B1 B2 u : St} {r : Option (St × Nat)} (h1 : CA f N ta r z1 B1) (c : ¬ z1 = 0) (hq : q_X8_add (ta + 19) x B1 z2 B2) : (z2 = 0 ∧ sAd2 r x = none) ∨ (z2 = 1 ∧ ∃ a, sAd2 r x = some a ∧ EK f N B2 ∧ LXA f N a.2 B2 ∧ tw ta B2 = a.1) := by
  obtain ⟨a, r1, hE, hX, ht⟩ := h1.pos c
  have h2 := C_ad2 (x := x) hE hX ht hq rfl rfl
  rw [r1]
  have b := hq.2.2.2
  by_cases c2 : z2 = 0
  · exact Or.inl ⟨c2, h2.neg c2⟩
  · exact Or.inr ⟨by omega, h2.pos c2⟩
theorem sAd2_none {x : Int} : sAd2 none x = none := rfl
theorem C_prodL {f : Nat → Int} {N ta n b : Nat} (hta : isT ta) (hn : n + b = 8) {SS : St → Int → St → Prop} {S : PT} (hS : 0 < n → HS f N ta ((b : Int) + 1) SS S) {u : St} {z : Int} : ∀ nn (i : Nat) (A : St) (p : Nat), i ≤ 1600 → EK f N A → LXA f N p A → A 3 4 = (b : Int) → d_X5_readProduct_1 SS b (ta + 19) z u nn (i : Int) A → CA f N ta (sProdL f N n S (1600 - i) (tw ta A) p) z u := by
  intro nn
  induction nn with
  | zero => intro i A p _ _ _ _ h; exact h.elim
  | succ m ih =>
    intro i A p hi hE hX h4 h
    obtain ⟨_, _, h⟩ := (h : tr_d_X5_readProduct_1 SS b (ta + 19) z u (fun z8 A10 => d_X5_readProduct_1 SS b (ta + 19) z u m z8 A10) i A)
    rcases h with ⟨c, hz, _⟩ | ⟨c, z19, A20, hq1, h⟩
    · rw [show 1600 - i = 0 by omega]
      exact hz
    · obtain ⟨k, hk⟩ : ∃ k, 1600 - i = k + 1 := ⟨1600 - i - 1, by omega⟩
      rw [hk]
      unfold sProdL
      have turn : ∀ {x : Int} {B : St} {e : Nat}, CS f N e B → tw ta B = tw ta A → B 3 4 = (b : Int) → d_X5_readProduct_2 (fun z8 A10 => d_X5_readProduct_1 SS b (ta + 19) z u m z8 A10) SS b (ta + 19) i z u x B → CA f N ta ((sAd2 (sPart f N n S (tw ta A) e) x).bind fun a => sProdL f N n S k a.1 a.2) z u := by
        intro x B e hC ht hb h
        obtain ⟨_, _, z45, A46, hq, h⟩ := (h : tr_d_X5_readProduct_2 _ SS b (ta + 19) i z u x B)
        have h1 := C_part hta hn hS hC.1 (Or.inl hC.2) hb hq
        rw [ht] at h1
        rcases h with ⟨c, hz, _⟩ | ⟨c, z51, A52, hq2, h⟩
        · rw [h1.neg c, sAd2_none]
          exact hz
        · have z45e : z45 = 1 := by have := hq.2.2.2.1; omega
          rcases C_turn (k := 0) (z := 0) (u := u) h1 c hq2 with ⟨e1, e2⟩ | ⟨e1, a, e2, hE2, hX2, ht2⟩
          · rw [e2]
            rcases h with ⟨c, _⟩ | ⟨_, hz, _⟩
            · exact absurd e1 c
            · exact hz
          · rw [e2]
            rcases h with ⟨_, h⟩ | ⟨c, _⟩
            · have := ih (i + 1) A52 a.2 (by omega) hE2 hX2 (by rw [hq2.2.2.1 3 4 rfl rfl, hq.2.2.2.2 z45e]; exact hb) h
              rw [ht2, show 1600 - (i + 1) = k by omega] at this
              exact this
            · omega
      have h1 := C_passesSign hta (by decide) hE hX hq1
      have g1 : A20 3 4 = (b : Int) := (hq1.2.2.1 3 4 rfl rfl).trans h4
      rcases h with ⟨c1, z25, A26, hq2, h⟩ | ⟨c1, h⟩
      · obtain ⟨r1, hE2, hX2, ht2⟩ := h1.neg c1
        rw [r1]
        have h2 := C_passesSign hta (by decide) hE2 (Or.inr hX2) hq2
        have g2 : A26 3 4 = (b : Int) := (hq2.2.2.1 3 4 rfl rfl).trans g1
        rcases h with ⟨c2, z30, A31, hq3, h⟩ | ⟨c2, h⟩
        · obtain ⟨r2, hE3, hX3, ht3⟩ := h2.neg c2
          rw [r2]
          have h3 := C_passesSign hta (by decide) hE3 (Or.inr hX3) hq3
          have g3 : A31 3 4 = (b : Int) := (hq3.2.2.1 3 4 rfl rfl).trans g2
          rcases h with ⟨c3, h⟩ | ⟨c3, hz, hu⟩
          · obtain ⟨e, r3, hC, ht⟩ := h3.pos c3
            rw [r3]
            exact turn hC (by rw [ht, ht3, ht2]) g3 h
          · obtain ⟨r3, hE4, hX4, ht4⟩ := h3.neg c3
            rw [r3, hu]
            exact ⟨hz, hE4, Or.inr hX4, by rw [ht4, ht3, ht2]⟩
        · obtain ⟨e, r2, hC, ht⟩ := h2.pos c2
          rw [r2]
          exact turn hC (by rw [ht, ht2]) g2 h
      · obtain ⟨e, r1, hC, ht⟩ := h1.pos c1
        rw [r1]
        exact turn hC ht g1 h
theorem C_prod {f : Nat → Int} {N ta n b : Nat} (hta : isT ta) (hn : n + b = 8) {SS : St → Int → St → Prop} {S : PT} (hS : 0 < n → HS f N ta ((b : Int) + 1) SS S) {A u : St} {z : Int} {p : Nat} (hE : EK f N A) (hX : LXA f N p A) (h4 : A 3 4 = (b : Int)) (h : q_X5_readProduct SS b (ta + 19) A z u) : CA f N ta (sProd f N n S (tw ta A) p) z u := by
  obtain ⟨z2, A3, hq, h⟩ := (h.1 : tr_r_X5_readProduct SS b (ta + 19) A z u)
  have h1 := C_part hta hn hS hE hX h4 hq
  unfold sProd
  rcases h with ⟨c, nn, h⟩ | ⟨c, hz, _⟩
  · obtain ⟨a, r, hE2, hX2, ht⟩ := h1.pos c
    rw [r]
    have z2e : z2 = 1 := by have := hq.2.2.2.1; omega
    have := C_prodL hta hn hS nn 0 A3 a.2 (by omega) hE2 hX2 (by rw [hq.2.2.2.2 z2e]; exact h4) h
    rw [ht] at this
    exact this
  · rw [h1.neg c]
    exact hz
theorem C_sumL {f : Nat → Int} {N ta n b : Nat} (hta : isT ta) (hn : n + b = 8) {SS : St → Int → St → Prop} {S : PT} (hS : 0 < n → HS f N ta ((b : Int) + 1) SS S) {u : St} {z : Int} : ∀ nn (i : Nat) (A : St) (p : Nat), i ≤ 1600 → EK f N A → LXA f N p A → A 3 4 = (b : Int) → d_X5_readSum_1 SS b (ta + 19) z u nn (i : Int) A → CA f N ta (sSumL f N n S (1600 - i) (tw ta A) p) z u := by
  intro nn
  induction nn with
  | zero => intro i A p _ _ _ _ h; exact h.elim
  | succ m ih =>
    intro i A p hi hE hX h4 h
    obtain ⟨_, _, h⟩ := (h : tr_d_X5_readSum_1 SS b (ta + 19) z u (fun z8 A10 => d_X5_readSum_1 SS b (ta + 19) z u m z8 A10) i A)
    rcases h with ⟨c, hz, _⟩ | ⟨c, z19, A20, hq1, h⟩
    · rw [show 1600 - i = 0 by omega]
      exact hz
    · obtain ⟨k, hk⟩ : ∃ k, 1600 - i = k + 1 := ⟨1600 - i - 1, by omega⟩
      rw [hk]
      unfold sSumL
      have turn : ∀ {x : Int} {B : St} {e : Nat}, CS f N e B → tw ta B = tw ta A → B 3 4 = (b : Int) → d_X5_readSum_2 (fun z8 A10 => d_X5_readSum_1 SS b (ta + 19) z u m z8 A10) SS b (ta + 19) i z u x B → CA f N ta ((sAd2 (sProd f N n S (tw ta A) e) x).bind fun a => sSumL f N n S k a.1 a.2) z u := by
        intro x B e hC ht hb h
        obtain ⟨_, _, z45, A46, hq, h⟩ := (h : tr_d_X5_readSum_2 _ SS b (ta + 19) i z u x B)
        have h1 := C_prod hta hn hS hC.1 (Or.inl hC.2) hb hq
        rw [ht] at h1
        rcases h with ⟨c, hz, _⟩ | ⟨c, z51, A52, hq2, h⟩
        · rw [h1.neg c, sAd2_none]
          exact hz
        · have z45e : z45 = 1 := by have := hq.2.2.2.1; omega
          rcases C_turn (k := 0) (z := 0) (u := u) h1 c hq2 with ⟨e1, e2⟩ | ⟨e1, a, e2, hE2, hX2, ht2⟩
          · rw [e2]
            rcases h with ⟨c, _⟩ | ⟨_, hz, _⟩
            · exact absurd e1 c
            · exact hz
          · rw [e2]
            rcases h with ⟨_, h⟩ | ⟨c, _⟩
            · have := ih (i + 1) A52 a.2 (by omega) hE2 hX2 (by rw [hq2.2.2.1 3 4 rfl rfl, hq.2.2.2.2 z45e]; exact hb) h
              rw [ht2, show 1600 - (i + 1) = k by omega] at this
              exact this
            · omega
      have h1 := C_passesSign hta (by decide) hE hX hq1
      have g1 : A20 3 4 = (b : Int) := (hq1.2.2.1 3 4 rfl rfl).trans h4
      rcases h with ⟨c1, z25, A26, hq2, h⟩ | ⟨c1, h⟩
      · obtain ⟨r1, hE2, hX2, ht2⟩ := h1.neg c1
        rw [r1]
        have h2 := C_passesSign hta (by decide) hE2 (Or.inr hX2) hq2
        have g2 : A26 3 4 = (b : Int) := (hq2.2.2.1 3 4 rfl rfl).trans g1
        rcases h with ⟨c2, h⟩ | ⟨c2, hz, hu⟩
        · obtain ⟨e, r2, hC, ht⟩ := h2.pos c2
          rw [r2]
          exact turn hC (by rw [ht, ht2]) g2 h
        · obtain ⟨r2, hE4, hX4, ht4⟩ := h2.neg c2
          rw [r2, hu]
          exact ⟨hz, hE4, Or.inr hX4, by rw [ht4, ht2]⟩
      · obtain ⟨e, r1, hC, ht⟩ := h1.pos c1
        rw [r1]
        exact turn hC ht g1 h
theorem C_sum {f : Nat → Int} {N ta n b : Nat} (hta : isT ta) (hn : n + b = 8) {SS : St → Int → St → Prop} {S : PT} (hS : 0 < n → HS f N ta ((b : Int) + 1) SS S) {A u : St} {z : Int} {p : Nat} (hE : EK f N A) (hX : LXA f N p A) (h4 : A 3 4 = (b : Int)) (h : r_X5_readSum SS b (ta + 19) A z u) : CA f N ta (sSum f N n S (tw ta A) p) z u := by
  obtain ⟨z2, A3, hq, h⟩ := (h : tr_r_X5_readSum SS b (ta + 19) A z u)
  have h1 := C_prod hta hn hS hE hX h4 hq
  unfold sSum
  rcases h with ⟨c, nn, h⟩ | ⟨c, hz, _⟩
  · obtain ⟨a, r, hE2, hX2, ht⟩ := h1.pos c
    rw [r]
    have z2e : z2 = 1 := by have := hq.2.2.2.1; omega
    have := C_sumL hta hn hS nn 0 A3 a.2 (by omega) hE2 hX2 (by rw [hq.2.2.2.2 z2e]; exact h4) h
    rw [ht] at this
    exact this
  · rw [h1.neg c]
    exact hz
theorem C_sumN {f : Nat → Int} {N ta : Nat} (hta : isT ta) : ∀ n : Nat, n ≤ 8 → HS f N ta (8 - (n : Int)) (rq_sum (ta + 19) n) (sSumN f N n) := by
  intro n
  induction n with
  | zero =>
    intro _ A z u p hE hX h4 h
    exact C_sum (n := 0) (b := 8 - 0) hta (by omega) (fun g => absurd g (by omega)) hE hX (by rw [h4]; rfl) (h.1 : r_X5_readSum (fun _ _ _ => False) (8 - 0) (ta + 19) A z u)
  | succ n ih =>
    intro hn A z u p hE hX h4 h
    refine C_sum (n := n + 1) (b := 8 - (n + 1)) hta (by omega) (fun _ => ?_) hE hX (by rw [h4]; omega) (h.1 : r_X5_readSum (rq_sum (ta + 19) n) (8 - (n + 1)) (ta + 19) A z u)
    have := ih (by omega)
    rw [show (((8 - (n + 1) : Nat) : Int) + 1) = 8 - (n : Int) by omega]
    exact this
/-! The class's tests: facts, both, tests, bars. -/
def sCmp (f : Nat → Int) (N p : Nat) : Option (Int × Nat) := match sSign f N 60 p with
  | some e => some (-9, e)
  | none => match sSign f N 62 p with
    | some e => some (-10, e)
    | none => match sSign f N 61 p with
      | some e => some (-11, e)
      | none => none
theorem C_cmp {f : Nat → Int} {N ta p : Nat} (hta : isT ta) {A u : St} {z : Int} (hE : EK f N A) (hX : LXA f N p A) (h : q_X5_comparisonSign A z u) : CR f N ta A (sCmp f N p) z u := by
  have ht : tw ta u = tw ta A := tw_fk hta h.2.2.1 rfl
  obtain ⟨A1, hq, z4, hs1, h⟩ := (h.1 : tr_r_X5_comparisonSign A z u)
  obtain ⟨hE1, hX1⟩ := lookA hE hX hq
  unfold sCmp sSign
  rcases h with ⟨c1, z8, hs2, h⟩ | ⟨c1, A29, hp, hz, hu⟩
  · rcases isS_iff (by decide) hX1 hs1 with ⟨e, _⟩ | ⟨_, g1⟩
    · omega
    · rw [if_neg g1]
      rcases h with ⟨c2, z12, hs3, h⟩ | ⟨c2, A26, hp, hz, hu⟩
      · rcases isS_iff (by decide) hX1 hs2 with ⟨e, _⟩ | ⟨_, g2⟩
        · omega
        · rw [if_neg g2]
          rcases h with ⟨c3, z16, A17, _, A20, _, hz, _⟩ | ⟨c3, A23, hp, hz, hu⟩
          · rcases isS_iff (by decide) hX1 hs3 with ⟨e, _⟩ | ⟨_, g3⟩
            · omega
            · rw [if_neg g3]
              exact hz
          · rcases isS_iff (by decide) hX1 hs3 with ⟨_, g3⟩ | ⟨e, _⟩
            · rw [if_pos g3]
              have hP := passX hE1 hX1 (by omega) hp
              exact ⟨hz, by omega, by rw [hu]; exact ⟨hP.1, hP.2.1⟩, ht⟩
            · omega
      · rcases isS_iff (by decide) hX1 hs2 with ⟨_, g2⟩ | ⟨e, _⟩
        · rw [if_pos g2]
          have hP := passX hE1 hX1 (by omega) hp
          exact ⟨hz, by omega, by rw [hu]; exact ⟨hP.1, hP.2.1⟩, ht⟩
        · omega
  · rcases isS_iff (by decide) hX1 hs1 with ⟨_, g1⟩ | ⟨e, _⟩
    · rw [if_pos g1]
      have hP := passX hE1 hX1 (by omega) hp
      exact ⟨hz, by omega, by rw [hu]; exact ⟨hP.1, hP.2.1⟩, ht⟩
    · omega
theorem CR.pos {f : Nat → Int} {N ta : Nat} {B u : St} {r : Option (Int × Nat)} {z : Int} (h : CR f N ta B r z u) (hz : ¬ z = -1) : ∃ a, r = some a ∧ z = a.1 ∧ CS f N a.2 u ∧ tw ta u = tw ta B := by
  cases r with
  | none => exact absurd h hz
  | some e => exact ⟨e, rfl, h.1, h.2.2⟩
theorem CR.neg {f : Nat → Int} {N ta : Nat} {B u : St} {r : Option (Int × Nat)} {z : Int} (h : CR f N ta B r z u) (hz : z = -1) : r = none := by
  cases r with
  | none => rfl
  | some e => exact absurd hz h.2.1
def sNots (f : Nat → Int) (N : Nat) : Nat → Int → Nat → Int × Nat
  | 0, t, p => (t, p)
  | k + 1, t, p => match sOwn f N 18 p with
    | some e => sNots f N k (if t = 0 then 1 else 0) e
    | none => (t, p)
def sFactB (f : Nat → Int) (N n : Nat) (S S2 : PT) : PT := fun T p => match sOwn f N 19 p with
  | some e => sAd2 (some (T, e)) (-5)
  | none => match sSign f N 91 p with
    | some e => if n = 0 then none else (S2 T e).bind fun a => (sSign f N 93 a.2).bind fun p2 => some (a.1, p2)
    | none => (S T p).bind fun a => (sCmp f N a.2).bind fun c => sAd2 (S a.1 c.2) c.1
def sFact (f : Nat → Int) (N n : Nat) (S S2 : PT) : PT := fun T p => (sFactB f N n S S2 T (sNots f N 1600 0 p).2).bind fun a => if (sNots f N 1600 0 p).1 = 0 then some a else sAd2 (some a) (-6)
def HT (f : Nat → Int) (N ta : Nat) (m : Int) (SS : St → Int → St → Prop) (S : PT) : Prop := ∀ (A : St) (z : Int) (u : St) (p : Nat), EK f N A → LXA f N p A → A 3 4 = m → q_SS_test SS A z u → CA f N ta (S (tw ta A) p) z u
/-- the fact's end: turned or not -/
theorem C_fact9 {f : Nat → Int} {N ta : Nat} {t z zr : Int} {u B : St} {r : Option (St × Nat)} (h1 : CA f N ta r zr B) (h : d_X5_readFact_9 (ta + 19) t z u zr B) : CA f N ta (r.bind fun a => if t = 0 then some a else sAd2 (some a) (-6)) z u := by
  obtain ⟨_, _, h⟩ := (h : tr_d_X5_readFact_9 (ta + 19) t z u zr B)
  rcases h with ⟨c, hz, _⟩ | ⟨c, h⟩
  · rw [h1.neg c]
    exact hz
  · obtain ⟨a, r1, hE, hX, ht⟩ := h1.pos c
    rw [r1]
    show CA f N ta (if t = 0 then some a else sAd2 (some a) (-6)) z u
    rcases h with ⟨c2, hz, hu⟩ | ⟨c2, z141, A142, hq, h⟩
    · rw [if_pos c2, hu]
      exact ⟨hz, hE, hX, ht⟩
    · rw [if_neg c2]
      have b := hq.2.2.2
      rcases h with ⟨c3, hz, hu⟩ | ⟨c3, hz, hu⟩
      · exact C_ad2 hE hX ht hq (by omega) hu
      · exact C_ad2 hE hX ht hq (by omega) hu
theorem C_factB {f : Nat → Int} {N ta n b : Nat} (hta : isT ta) (hn : n + b = 8) {SS : St → Int → St → Prop} {S2 : PT} (hS : 0 < n → HT f N ta ((b : Int) + 1) SS S2) {A u : St} {z t : Int} {p : Nat} (hE : EK f N A) (hX : LXA f N p A) (h4 : A 3 4 = (b : Int)) (h : d_X5_readFact_3 SS b (ta + 19) t z u A) : CA f N ta ((sFactB f N n (sSumN f N n) S2 (tw ta A) p).bind fun a => if t = 0 then some a else sAd2 (some a) (-6)) z u := by
  have hs1 := C_sumN (f := f) (N := N) hta n (by omega)
  have e8 : 8 - b = n := by omega
  have no : ∀ {B : St}, d_X5_readFact_9 (ta + 19) t z u 0 B → z = 0 := by
    intro B h
    obtain ⟨_, _, h⟩ := (h : tr_d_X5_readFact_9 (ta + 19) t z u 0 B)
    rcases h with ⟨_, hz, _⟩ | ⟨c, _⟩
    · exact hz
    · exact absurd rfl c
  have no5 : ∀ {B : St}, d_X5_readFact_5 (ta + 19) t z u B → z = 0 := by
    intro B h
    obtain ⟨_, h⟩ := (h : tr_d_X5_readFact_5 (ta + 19) t z u B)
    obtain ⟨_, _, h⟩ := (h : tr_d_X5_readFact_6 (ta + 19) t z u 0 B)
    exact no h
  have no7 : ∀ {B : St}, d_X5_readFact_7 (ta + 19) t z u B → z = 0 := by
    intro B h
    obtain ⟨_, h⟩ := (h : tr_d_X5_readFact_7 (ta + 19) t z u B)
    obtain ⟨_, _, h⟩ := (h : tr_d_X5_readFact_8 (ta + 19) t z u 0 B)
    exact no h
  obtain ⟨_, z26, A27, hq, h⟩ := (h : tr_d_X5_readFact_3 SS b (ta + 19) t z u A)
  have h1 := C_passesWord hta (k := 19) (by decide) rfl hE hX hq
  have g1 : A27 3 4 = (b : Int) := (hq.2.2.1 3 4 rfl rfl).trans h4
  unfold sFactB
  rcases h with ⟨c, z32, A33, hq2, h⟩ | ⟨c, z127, A128, hq2, h⟩
  · obtain ⟨r1, hE1, hX1, ht1⟩ := h1.neg c
    rw [r1]
    have h2 := C_passesSign hta (by decide) hE1 (Or.inr hX1) hq2
    have g2 : A33 3 4 = (b : Int) := (hq2.2.2.1 3 4 rfl rfl).trans g1
    rcases h with ⟨c2, z42, A43, hq3, h⟩ | ⟨c2, z91, A92, hq3, h⟩
    · obtain ⟨r2, hE2, hX2, ht2⟩ := h2.neg c2
      rw [r2]
      rw [e8] at hq3
      have h3 := hs1 A33 z42 A43 p hE2 (Or.inr hX2) (by omega) hq3
      rw [ht2, ht1] at h3
      show CA f N ta (((sSumN f N n (tw ta A) p).bind _).bind _) z u
      rcases h with ⟨c3, h⟩ | ⟨c3, z49, A50, hq4, h⟩
      · rw [h3.neg c3]
        obtain ⟨_, _, h⟩ := (h : tr_d_X5_readFact_4 b (ta + 19) t z u (-1) A43)
        rcases h with ⟨_, h⟩ | ⟨c, _⟩
        · exact no5 h
        · exact absurd rfl c
      · obtain ⟨a, r3, hE3, hX3, ht3⟩ := h3.pos c3
        rw [r3]
        have z42e : z42 = 1 := by have := hq3.2.2.2.1; omega
        have g3 : A43 3 4 = (b : Int) := (hq3.2.2.2.2 z42e).trans g2
        have h4' := C_cmp hta hE3 hX3 hq4
        show CA f N ta (((sCmp f N a.2).bind _).bind _) z u
        obtain ⟨_, _, h⟩ := (h : tr_d_X5_readFact_4 b (ta + 19) t z u z49 A50)
        rcases h with ⟨c4, h⟩ | ⟨c4, z63, A64, hq5, h⟩
        · rw [h4'.neg c4]
          exact no5 h
        · obtain ⟨cc, r4, e4, hC4, ht4⟩ := h4'.pos c4
          rw [r4]
          have g4 : A50 3 4 = (b : Int) := (hq4.2.2.1 3 4 rfl rfl).trans g3
          rw [e8] at hq5
          have h5 := hs1 A50 z63 A64 cc.2 hC4.1 (Or.inl hC4.2) (by omega) hq5
          rw [ht4, ht3] at h5
          show CA f N ta ((sAd2 (sSumN f N n a.1 cc.2) cc.1).bind _) z u
          rcases h with ⟨c5, h⟩ | ⟨c5, z69, A70, hq6, h⟩
          · rw [h5.neg c5, sAd2_none]
            exact no5 h
          · rw [e4] at hq6
            rcases C_turn (k := 0) (z := 0) (u := u) h5 c5 hq6 with ⟨e1, e2⟩ | ⟨e1, x, e2, hE6, hX6, ht6⟩
            · rw [e2]
              rcases h with ⟨_, h⟩ | ⟨c6, _⟩
              · exact no5 h
              · exact absurd e1 c6
            · rw [e2]
              rcases h with ⟨c6, _⟩ | ⟨_, h⟩
              · omega
              · obtain ⟨_, _, h⟩ := (h : tr_d_X5_readFact_6 (ta + 19) t z u 1 A70)
                exact C_fact9 (r := some x) ⟨rfl, hE6, hX6, ht6⟩ h
    · obtain ⟨e, r2, hC, ht2⟩ := h2.pos c2
      rw [r2]
      show CA f N ta ((if n = 0 then none else _).bind _) z u
      rcases C_enter hta hC.1 (Or.inl hC.2) hq3 with ⟨e1, e2⟩ | ⟨e1, e2, hE3, hX3, ht3, g43⟩
      · rw [if_pos (by omega)]
        rcases h with ⟨_, h⟩ | ⟨c3, _⟩
        · exact no7 h
        · exact absurd e1 c3
      · rw [if_neg (by omega)]
        rcases h with ⟨c3, _⟩ | ⟨_, z99, A100, hq4, h⟩
        · omega
        · have h4' := hS (by omega) A92 z99 A100 e hE3 hX3 (by omega) hq4
          rw [ht3, ht2, ht1] at h4'
          rcases h with ⟨c4, h⟩ | ⟨c4, z105, A106, hq5, h⟩
          · rw [h4'.neg c4]
            exact no7 h
          · obtain ⟨a, r4, hE4, hX4, ht4⟩ := h4'.pos c4
            rw [r4]
            have h5 := C_sign hta (by decide) hE4 hX4 hq5
            show CA f N ta (((sSign f N 93 a.2).bind _).bind _) z u
            rcases h with ⟨c5, h⟩ | ⟨c5, z111, A112, hq6, h⟩
            · rw [h5.neg c5]
              exact no7 h
            · obtain ⟨p2, r5, hC5, ht5⟩ := h5.pos c5
              rw [r5]
              obtain ⟨k1, k2, k3⟩ := C_leave hta hC5.1 (Or.inl hC5.2) hq6
              obtain ⟨_, _, h⟩ := (h : tr_d_X5_readFact_8 (ta + 19) t z u 1 A112)
              exact C_fact9 (r := some (a.1, p2)) ⟨rfl, k1, k2, by rw [k3, ht5, ht4]⟩ h
  · obtain ⟨e, r1, hC, ht1⟩ := h1.pos c
    rw [r1]
    exact C_fact9 (C_ad2 (a := (tw ta A, e)) hC.1 (Or.inl hC.2) ht1 hq2 rfl rfl) h
theorem C_fact {f : Nat → Int} {N ta n b : Nat} (hta : isT ta) (hn : n + b = 8) {SS : St → Int → St → Prop} {S2 : PT} (hS : 0 < n → HT f N ta ((b : Int) + 1) SS S2) {A u : St} {z : Int} {p : Nat} (hE : EK f N A) (hX : LXA f N p A) (h4 : A 3 4 = (b : Int)) (h : q_X5_readFact SS b (ta + 19) A z u) : CA f N ta (sFact f N n (sSumN f N n) S2 (tw ta A) p) z u := by
  obtain ⟨nn, h⟩ := (h.1 : tr_r_X5_readFact SS b (ta + 19) A z u)
  have lp : ∀ (m i : Nat) (t : Int) (B : St) (q : Nat), i ≤ 1600 → EK f N B → LXA f N q B → B 3 4 = (b : Int) → tw ta B = tw ta A → d_X5_readFact_1 SS b (ta + 19) z u m (i : Int) t B → CA f N ta ((sFactB f N n (sSumN f N n) S2 (tw ta A) (sNots f N (1600 - i) t q).2).bind fun a => if (sNots f N (1600 - i) t q).1 = 0 then some a else sAd2 (some a) (-6)) z u := by
    intro m
    induction m with
    | zero => intro i t B q _ _ _ _ _ h; exact h.elim
    | succ m ih =>
      intro i t B q hi hE hX h4 ht h
      obtain ⟨_, _, _, h⟩ := (h : tr_d_X5_readFact_1 SS b (ta + 19) z u (fun z1 z2 A4 => d_X5_readFact_1 SS b (ta + 19) z u m z1 z2 A4) i t B)
      rcases h with ⟨c, h⟩ | ⟨c, z13, A14, hq, h⟩
      · rw [show 1600 - i = 0 by omega]
        have := C_factB hta hn hS hE hX h4 h
        rw [ht] at this
        exact this
      · obtain ⟨k, hk⟩ : ∃ k, 1600 - i = k + 1 := ⟨1600 - i - 1, by omega⟩
        rw [hk]
        have h1 := C_passesWord hta (k := 18) (by decide) rfl hE hX hq
        have g1 : A14 3 4 = (b : Int) := (hq.2.2.1 3 4 rfl rfl).trans h4
        rcases h with ⟨c1, h⟩ | ⟨c1, h⟩
        · obtain ⟨r1, hE1, hX1, ht1⟩ := h1.neg c1
          have e : sNots f N (k + 1) t q = (t, q) := by unfold sNots; rw [r1]
          rw [e]
          have := C_factB hta hn hS hE1 (Or.inr hX1) g1 h
          rw [ht1, ht] at this
          exact this
        · obtain ⟨e, r1, hC, ht1⟩ := h1.pos c1
          have e2 : sNots f N (k + 1) t q = sNots f N k (if t = 0 then 1 else 0) e := by
            conv => lhs; unfold sNots
            rw [r1]
          rw [e2, show k = 1600 - (i + 1) by omega]
          rcases h with ⟨c2, h⟩ | ⟨c2, h⟩
          · rw [if_neg c2]
            obtain ⟨_, h⟩ := (h : tr_d_X5_readFact_2 _ i A14 z u 0)
            exact ih (i + 1) 0 A14 e (by omega) hC.1 (Or.inl hC.2) g1 (ht1.trans ht) h
          · rw [if_pos c2]
            obtain ⟨_, h⟩ := (h : tr_d_X5_readFact_2 _ i A14 z u 1)
            exact ih (i + 1) 1 A14 e (by omega) hC.1 (Or.inl hC.2) g1 (ht1.trans ht) h
  exact lp nn 0 0 A p (by omega) hE hX h4 rfl h
def sBothL (f : Nat → Int) (N n : Nat) (S S2 : PT) : Nat → PT
  | 0 => fun T p => some (T, p)
  | k + 1 => fun T p => match sOwn f N 17 p with
    | some e => (sAd2 (sFact f N n S S2 T e) (-8)).bind fun a => sBothL f N n S S2 k a.1 a.2
    | none => some (T, p)
def sBoth (f : Nat → Int) (N n : Nat) (S S2 : PT) : PT := fun T p => (sFact f N n S S2 T p).bind fun a => sBothL f N n S S2 1600 a.1 a.2
def sTestL (f : Nat → Int) (N n : Nat) (S S2 : PT) : Nat → PT
  | 0 => fun T p => some (T, p)
  | k + 1 => fun T p => match sOwn f N 16 p with
    | some e => (sAd2 (sBoth f N n S S2 T e) (-7)).bind fun a => sTestL f N n S S2 k a.1 a.2
    | none => some (T, p)
def sTest (f : Nat → Int) (N n : Nat) (S S2 : PT) : PT := fun T p => (sBoth f N n S S2 T p).bind fun a => sTestL f N n S S2 1600 a.1 a.2
def sTestN (f : Nat → Int) (N : Nat) : Nat → PT
  | 0 => sTest f N 0 (sSumN f N 0) (fun _ _ => none)
  | n + 1 => sTest f N (n + 1) (sSumN f N (n + 1)) (sTestN f N n)
theorem C_bothL {f : Nat → Int} {N ta n b : Nat} (hta : isT ta) (hn : n + b = 8) {SS : St → Int → St → Prop} {S2 : PT} (hS : 0 < n → HT f N ta ((b : Int) + 1) SS S2) {u : St} {z : Int} : ∀ (nn i : Nat) (A : St) (p : Nat), i ≤ 1600 → EK f N A → LXA f N p A → A 3 4 = (b : Int) → d_X5_readBoth_1 SS b (ta + 19) z u nn (i : Int) A → CA f N ta (sBothL f N n (sSumN f N n) S2 (1600 - i) (tw ta A) p) z u := by
  intro nn
  induction nn with
  | zero => intro i A p _ _ _ _ h; exact h.elim
  | succ m ih =>
    intro i A p hi hE hX h4 h
    obtain ⟨_, _, h⟩ := (h : tr_d_X5_readBoth_1 SS b (ta + 19) z u (fun z8 A10 => d_X5_readBoth_1 SS b (ta + 19) z u m z8 A10) i A)
    rcases h with ⟨c, hz, hu⟩ | ⟨c, z19, A20, hq1, h⟩
    · rw [show 1600 - i = 0 by omega, hu]
      exact ⟨hz, hE, hX, rfl⟩
    · obtain ⟨k, hk⟩ : ∃ k, 1600 - i = k + 1 := ⟨1600 - i - 1, by omega⟩
      rw [hk]
      unfold sBothL
      have h1 := C_passesWord hta (k := 17) (by decide) rfl hE hX hq1
      have g1 : A20 3 4 = (b : Int) := (hq1.2.2.1 3 4 rfl rfl).trans h4
      rcases h with ⟨c1, hz, hu⟩ | ⟨c1, z26, A27, hq, h⟩
      · obtain ⟨r1, hE2, hX2, ht2⟩ := h1.neg c1
        rw [r1, hu]
        exact ⟨hz, hE2, Or.inr hX2, ht2⟩
      · obtain ⟨e, r1, hC, ht⟩ := h1.pos c1
        rw [r1]
        have h2 := C_fact hta hn hS hC.1 (Or.inl hC.2) g1 hq
        rw [ht] at h2
        show CA f N ta ((sAd2 (sFact f N n (sSumN f N n) S2 (tw ta A) e) (-8)).bind _) z u
        rcases h with ⟨c2, hz, _⟩ | ⟨c2, z32, A33, hq2, h⟩
        · rw [h2.neg c2, sAd2_none]
          exact hz
        · have z26e : z26 = 1 := by have := hq.2.2.2.1; omega
          rcases C_turn (k := 0) (z := 0) (u := u) h2 c2 hq2 with ⟨e1, e2⟩ | ⟨e1, a, e2, hE2, hX2, ht2⟩
          · rw [e2]
            rcases h with ⟨c, _⟩ | ⟨_, hz, _⟩
            · exact absurd e1 c
            · exact hz
          · rw [e2]
            rcases h with ⟨_, h⟩ | ⟨c, _⟩
            · have := ih (i + 1) A33 a.2 (by omega) hE2 hX2 (by rw [hq2.2.2.1 3 4 rfl rfl, hq.2.2.2.2 z26e]; exact g1) h
              rw [ht2, show 1600 - (i + 1) = k by omega] at this
              exact this
            · omega
theorem C_both {f : Nat → Int} {N ta n b : Nat} (hta : isT ta) (hn : n + b = 8) {SS : St → Int → St → Prop} {S2 : PT} (hS : 0 < n → HT f N ta ((b : Int) + 1) SS S2) {A u : St} {z : Int} {p : Nat} (hE : EK f N A) (hX : LXA f N p A) (h4 : A 3 4 = (b : Int)) (h : q_X5_readBoth SS b (ta + 19) A z u) : CA f N ta (sBoth f N n (sSumN f N n) S2 (tw ta A) p) z u := by
  obtain ⟨z2, A3, hq, h⟩ := (h.1 : tr_r_X5_readBoth SS b (ta + 19) A z u)
  have h1 := C_fact hta hn hS hE hX h4 hq
  unfold sBoth
  rcases h with ⟨c, nn, h⟩ | ⟨c, hz, _⟩
  · obtain ⟨a, r, hE2, hX2, ht⟩ := h1.pos c
    rw [r]
    have z2e : z2 = 1 := by have := hq.2.2.2.1; omega
    have := C_bothL hta hn hS nn 0 A3 a.2 (by omega) hE2 hX2 (by rw [hq.2.2.2.2 z2e]; exact h4) h
    rw [ht] at this
    exact this
  · rw [h1.neg c]
    exact hz
theorem C_testL {f : Nat → Int} {N ta n b : Nat} (hta : isT ta) (hn : n + b = 8) {SS : St → Int → St → Prop} {S2 : PT} (hS : 0 < n → HT f N ta ((b : Int) + 1) SS S2) {u : St} {z : Int} : ∀ (nn i : Nat) (A : St) (p : Nat), i ≤ 1600 → EK f N A → LXA f N p A → A 3 4 = (b : Int) → d_X5_readTest_1 SS b (ta + 19) z u nn (i : Int) A → CA f N ta (sTestL f N n (sSumN f N n) S2 (1600 - i) (tw ta A) p) z u := by
  intro nn
  induction nn with
  | zero => intro i A p _ _ _ _ h; exact h.elim
  | succ m ih =>
    intro i A p hi hE hX h4 h
    obtain ⟨_, _, h⟩ := (h : tr_d_X5_readTest_1 SS b (ta + 19) z u (fun z8 A10 => d_X5_readTest_1 SS b (ta + 19) z u m z8 A10) i A)
    rcases h with ⟨c, hz, hu⟩ | ⟨c, z19, A20, hq1, h⟩
    · rw [show 1600 - i = 0 by omega, hu]
      exact ⟨hz, hE, hX, rfl⟩
    · obtain ⟨k, hk⟩ : ∃ k, 1600 - i = k + 1 := ⟨1600 - i - 1, by omega⟩
      rw [hk]
      unfold sTestL
      have h1 := C_passesWord hta (k := 16) (by decide) rfl hE hX hq1
      have g1 : A20 3 4 = (b : Int) := (hq1.2.2.1 3 4 rfl rfl).trans h4
      rcases h with ⟨c1, hz, hu⟩ | ⟨c1, z26, A27, hq, h⟩
      · obtain ⟨r1, hE2, hX2, ht2⟩ := h1.neg c1
        rw [r1, hu]
        exact ⟨hz, hE2, Or.inr hX2, ht2⟩
      · obtain ⟨e, r1, hC, ht⟩ := h1.pos c1
        rw [r1]
        have h2 := C_both hta hn hS hC.1 (Or.inl hC.2) g1 hq
        rw [ht] at h2
        show CA f N ta ((sAd2 (sBoth f N n (sSumN f N n) S2 (tw ta A) e) (-7)).bind _) z u
        rcases h with ⟨c2, hz, _⟩ | ⟨c2, z32, A33, hq2, h⟩
        · rw [h2.neg c2, sAd2_none]
          exact hz
        · have z26e : z26 = 1 := by have := hq.2.2.2.1; omega
          rcases C_turn (k := 0) (z := 0) (u := u) h2 c2 hq2 with ⟨e1, e2⟩ | ⟨e1, a, e2, hE2, hX2, ht2⟩
          · rw [e2]
            rcases h with ⟨c, _⟩ | ⟨_, hz, _⟩
            · exact absurd e1 c
            · exact hz
          · rw [e2]
            rcases h with ⟨_, h⟩ | ⟨c, _⟩
            · have := ih (i + 1) A33 a.2 (by omega) hE2 hX2 (by rw [hq2.2.2.1 3 4 rfl rfl, hq.2.2.2.2 z26e]; exact g1) h
              rw [ht2, show 1600 - (i + 1) = k by omega] at this
              exact this
            · omega
theorem C_test {f : Nat → Int} {N ta n b : Nat} (hta : isT ta) (hn : n + b = 8) {SS : St → Int → St → Prop} {S2 : PT} (hS : 0 < n → HT f N ta ((b : Int) + 1) SS S2) {A u : St} {z : Int} {p : Nat} (hE : EK f N A) (hX : LXA f N p A) (h4 : A 3 4 = (b : Int)) (h : r_X5_readTest SS b (ta + 19) A z u) : CA f N ta (sTest f N n (sSumN f N n) S2 (tw ta A) p) z u := by
  obtain ⟨z2, A3, hq, h⟩ := (h : tr_r_X5_readTest SS b (ta + 19) A z u)
  have h1 := C_both hta hn hS hE hX h4 hq
  unfold sTest
  rcases h with ⟨c, nn, h⟩ | ⟨c, hz, _⟩
  · obtain ⟨a, r, hE2, hX2, ht⟩ := h1.pos c
    rw [r]
    have z2e : z2 = 1 := by have := hq.2.2.2.1; omega
    have := C_testL hta hn hS nn 0 A3 a.2 (by omega) hE2 hX2 (by rw [hq.2.2.2.2 z2e]; exact h4) h
    rw [ht] at this
    exact this
  · rw [h1.neg c]
    exact hz
theorem C_testN {f : Nat → Int} {N ta : Nat} (hta : isT ta) : ∀ n : Nat, n ≤ 8 → HT f N ta (8 - (n : Int)) (rq_test (ta + 19) n) (sTestN f N n) := by
  intro n
  induction n with
  | zero =>
    intro _ A z u p hE hX h4 h
    exact C_test (n := 0) (b := 8 - 0) hta (by omega) (fun g => absurd g (by omega)) hE hX (by rw [h4]; rfl) (h.1 : r_X5_readTest (fun _ _ _ => False) (8 - 0) (ta + 19) A z u)
  | succ n ih =>
    intro hn A z u p hE hX h4 h
    refine C_test (n := n + 1) (b := 8 - (n + 1)) hta (by omega) (fun _ => ?_) hE hX (by rw [h4]; omega) (h.1 : r_X5_readTest (rq_test (ta + 19) n) (8 - (n + 1)) (ta + 19) A z u)
    have := ih (by omega)
    rw [show (((8 - (n + 1) : Nat) : Int) + 1) = 8 - (n : Int) by omega]
    exact this
