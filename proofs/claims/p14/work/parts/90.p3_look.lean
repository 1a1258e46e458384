theorem nm10_b {f : Nat → Int} {s : Nat} : ∀ n, (∀ k, k < n → isD (f (s + k))) → n ≤ 4 → 0 ≤ nm10 f s n ∧ nm10 f s n < 10 ^ n := by
  intro n
  induction n with
  | zero => intro _ _; exact ⟨Int.le_refl _, (by decide : (0 : Int) < 10 ^ 0)⟩
  | succ n ih =>
    intro h h4
    have h1 := ih (fun k hk => h k (by omega)) (by omega)
    have h2 := h n (by omega)
    have e : (10 : Int) ^ (n + 1) = 10 * 10 ^ n := by rw [Int.pow_succ]; omega
    show 0 ≤ 10 * nm10 f s n + (f (s + n) - 48) ∧ 10 * nm10 f s n + (f (s + n) - 48) < 10 ^ (n + 1)
    rw [e]
    omega
theorem nm10_4 {f : Nat → Int} {s n : Nat} (h : ∀ k, k < n → isD (f (s + k))) (h4 : n ≤ 4) : 0 ≤ nm10 f s n ∧ nm10 f s n ≤ 9999 := by
  have h1 := nm10_b n h h4
  have h2 : (10 : Nat) ^ n ≤ 10 ^ 4 := Nat.pow_le_pow_right (by decide) h4
  have h3 : ((10 ^ n : Nat) : Int) = 10 ^ n := by simp
  have h5 : (10 : Nat) ^ 4 = 10000 := by decide
  omega
theorem cut_loopN {f : Nat → Int} {N s : Nat} {A A9 u : St} (hT : ET f N A) (h3 : A 5 3 = (s : Int)) (h2 : ∀ k, A9 2 k = A 2 k) : ∀ nn q (A11 : St), A11 = stA (stA A9 5 4 (nm10 f s (q - s))) 5 1 (q : Int) → s ≤ q → q ≤ N → q ≤ s + 4 → (∀ k, k < q - s → isD (f (s + k))) → d_X3_cut_2 2 48 57 4 A u nn A11 → (s + 4 < rnn 48 57 f (N - q) q ∧ u 5 2 = 4 ∧ u 5 6 = A9 5 6) ∨ (rnn 48 57 f (N - q) q ≤ s + 4 ∧ u = stA (stA (stA A9 5 4 (nm10 f s (rnn 48 57 f (N - q) q - s))) 5 1 ((rnn 48 57 f (N - q) q : Nat) : Int)) 5 5 ((rnn 48 57 f (N - q) q : Nat) : Int)) := by
  intro nn
  induction nn with
  | zero => intro q A11 _ _ _ _ _ h; exact h.elim
  | succ n ih =>
    intro q A11 hA h1 h4 h5 hL h
    have a1 : A11 5 1 = (q : Int) := by rw [hA]; rfl
    have a4 : A11 5 4 = nm10 f s (q - s) := by rw [hA]; rfl
    have a2 : ∀ k, A11 2 k = A 2 k := fun k => by rw [hA]; exact h2 k
    have a6 : A11 5 6 = A9 5 6 := by rw [hA]; rfl
    obtain ⟨hI, h⟩ := (h : tr_d_X3_cut_2 2 48 57 4 A u (fun A11 => d_X3_cut_2 2 48 57 4 A u n A11) A11)
    rw [a1, hT.1] at h
    rcases h with ⟨c, A22, rfl, rfl⟩ | ⟨c, z27, hz, h⟩
    · rw [rnn_stop (Or.inl (by omega))]
      exact Or.inr ⟨h5, by rw [hA]⟩
    · have hq : q < N := by omega
      have hf : f q = z27 % 256 := by
        rw [hz, Int.toNat_natCast, a2]
        exact hT.2.2.1 q hq
      have hr : -128 ≤ z27 ∧ z27 ≤ 127 := by rw [hz]; exact irTPb hI
      rcases h with ⟨c2, A29, rfl, rfl⟩ | ⟨c2, h⟩
      · rw [rnn_stop (Or.inr (by omega))]
        exact Or.inr ⟨h5, by rw [hA]⟩
      · rcases h with ⟨c3, A32, rfl, rfl⟩ | ⟨c3, h⟩
        · rw [rnn_stop (Or.inr (by omega))]
          exact Or.inr ⟨h5, by rw [hA]⟩
        · have hl : 48 ≤ f q ∧ f q ≤ 57 := by omega
          rw [rnn_go hq hl]
          rcases h with ⟨c4, h⟩ | ⟨c4, A53, rfl, A55, rfl, rfl⟩
          · rcases h with ⟨c5, _⟩ | ⟨_, z44, hz44, z45, hz45, h⟩
            · exact absurd rfl c5
            · obtain ⟨_, A49, hA49, A51, hA51, h⟩ := (h : tr_d_X3_cut_3 _ A11 u z45)
              rw [h3] at c4
              have b := nm10_4 (f := f) (s := s) (n := q - s) hL (by omega)
              have e1 : z45 = nm10 f s (q + 1 - s) := by
                have g1 : z44 = 10 * nm10 f s (q - s) := by rw [hz44, a4]; exact oWrap_id ⟨by omega, by omega⟩
                have g2 : z45 = z44 + z27 - 48 := by rw [hz45]; exact oWrap_id ⟨by omega, by omega⟩
                rw [g2, g1, show q + 1 - s = (q - s) + 1 by omega]
                show _ = 10 * nm10 f s (q - s) + (f (s + (q - s)) - 48)
                rw [show s + (q - s) = q by omega]
                omega
              have e2 : A51 = stA (stA A9 5 4 (nm10 f s (q + 1 - s))) 5 1 ((q + 1 : Nat) : Int) := by
                rw [hA51, hA49, e1, a1, hA, stA_comm _ 5 (i := 4) (i' := 1) _ _ (by decide), stA_stA, stA_comm _ 5 (i := 1) (i' := 4) _ _ (by decide), stA_stA]
                rfl
              exact ih (q + 1) A51 e2 (by omega) (by omega) (by omega) (fun k hk => by
                by_cases hk2 : k < q - s
                · exact hL k hk2
                · rw [show s + k = q by omega]; exact hl) h
          · rw [h3] at c4
            have := (rnn_le 48 57 f (N - (q + 1)) (q + 1)).1
            exact Or.inl ⟨by omega, rfl, a6⟩
/-- no token is looked at; the next one is looked for from p on -/
def LX0 (f : Nat → Int) (N p : Nat) (B : St) : Prop := B 5 6 = 0 ∧ B 5 1 = (p : Int) ∧ p ≤ N ∧ (B 5 5 = (p : Int) ↔ adj f p) ∧ B 5 5 ≤ (p : Int)
/-- the value of the token behind p -/
def LV (f : Nat → Int) (N p : Nat) (B : St) : Prop := (tKind f N p = 1 → B 5 4 = w5 f (sAt f N p) (tEnd f N p - sAt f N p)) ∧ (tKind f N p = 2 → B 5 4 = nm10 f (sAt f N p) (tEnd f N p - sAt f N p)) ∧ (tKind f N p = 3 → B 5 4 % 256 = f (sAt f N p) ∧ -128 ≤ B 5 4 ∧ B 5 4 ≤ 127)
/-- the token behind p is looked at -/
def LX1 (f : Nat → Int) (N p : Nat) (B : St) : Prop := B 5 6 = 1 ∧ p ≤ N ∧ B 5 2 = tKind f N p ∧ (tKind f N p ≠ 4 → B 5 1 = (tEnd f N p : Int) ∧ tEnd f N p ≤ N ∧ (B 5 5 = (tEnd f N p : Int) ↔ adj f (tEnd f N p)) ∧ B 5 5 ≤ (tEnd f N p : Int)) ∧ LV f N p B
def LXA (f : Nat → Int) (N p : Nat) (B : St) : Prop := LX0 f N p B ∨ LX1 f N p B
theorem look_loop {f : Nat → Int} {N : Nat} {B A3 u : St} (hE : EK f N B) (h2 : ∀ k, A3 2 k = B 2 k) : ∀ (nn q : Nat) (A5 : St), A5 = stA A3 5 1 (q : Int) → q ≤ N → d_X3_look_1 B u nn A5 → ∃ A5' : St, A5' = stA A3 5 1 ((skp f (N - q) q : Nat) : Int) ∧ IK A5' ∧ d_X3_look_3 B A5' u := by
  intro nn
  induction nn with
  | zero => intro q A5 _ _ h; exact h.elim
  | succ n ih =>
    intro q A5 hA hq h
    have a1 : A5 5 1 = (q : Int) := by rw [hA]; rfl
    have a2 : ∀ k, A5 2 k = B 2 k := fun k => by rw [hA]; exact h2 k
    obtain ⟨hI, h⟩ := (h : tr_d_X3_look_1 B u (fun A5 => d_X3_look_1 B u n A5) A5)
    rw [a1, hE.2.1] at h
    have go : q < N → isB (f q) → d_X3_look_2 (fun A5 => d_X3_look_1 B u n A5) A5 u → ∃ A5' : St, A5' = stA A3 5 1 ((skp f (N - q) q : Nat) : Int) ∧ IK A5' ∧ d_X3_look_3 B A5' u := by
      intro h1 hb h
      obtain ⟨A25, hA25, h⟩ := (h : tr_d_X3_look_2 _ A5 u)
      rw [skp_go h1 hb]
      refine ih (q + 1) A25 ?_ (by omega) h
      rw [hA25, a1, hA, stA_stA]
      rfl
    rcases h with ⟨c, h⟩ | ⟨c, z19, hz, h⟩
    · exact ⟨A5, by rw [skp_stop (Or.inl (by omega))]; exact hA, hI, h⟩
    · have hqN : q < N := by omega
      have hf : f q = z19 % 256 := by
        rw [hz, Int.toNat_natCast, a2]
        exact hE.2.2.2.1 q hqN
      have hr : -128 ≤ z19 ∧ z19 ≤ 127 := by rw [hz]; exact irTPb hI
      rcases h with ⟨c2, h⟩ | ⟨c2, h⟩
      · exact go hqN (Or.inl (by omega)) h
      · rcases h with ⟨c3, h⟩ | ⟨c3, h⟩
        · exact ⟨A5, by rw [skp_stop (Or.inr (by omega))]; exact hA, hI, h⟩
        · exact go hqN (Or.inr (by omega)) h
