/-! The reference's reader of tokens. -/
def EM (f : Nat → Int) (N : Nat) (A : St) : Prop := A 0 2 = (N : Int) ∧ N ≤ 1600 ∧ ∀ k, k < N → f k = A 1 k
theorem pShl8 {a : Int} (h : 0 ≤ a ∧ a < 281474976710656) : pShl a 8 = 256 * a := by
  have e1 : ((iI 8).toInt64 &&& 63) = 8 := by decide +kernel
  show (jI a <<< ((iI 8).toInt64 &&& 63)).toInt = _
  rw [e1]
  have e2 : (jI a <<< 8 : Int64).toBitVec = (jI a).toBitVec <<< 8 := by
    rw [Int64.toBitVec_shiftLeft]
    rfl
  show (jI a <<< 8 : Int64).toBitVec.toInt = _
  rw [e2, BitVec.toInt_eq_toNat_cond, BitVec.toNat_shiftLeft, bv_natL, Nat.shiftLeft_eq]
  have e3 : (a % 18446744073709551616).toNat = a.toNat := by omega
  rw [e3]
  have e4 : a.toNat * 2 ^ 8 % 2 ^ 64 = 256 * a.toNat := by omega
  rw [e4]
  split <;> omega
theorem pOr8 {a c : Int} (ha : 0 ≤ a ∧ a < 281474976710656) (hc : 0 ≤ c ∧ c < 256) : pOr (256 * a) c = 256 * a + c := by
  have e : (jI (256 * a) ||| jI c).toBitVec = (jI (256 * a)).toBitVec ||| (jI c).toBitVec := Int64.toBitVec_or _ _
  have na : (jI (256 * a)).toBitVec.toNat = 2 ^ 8 * a.toNat := by rw [bv_natL]; omega
  have nc : (jI c).toBitVec.toNat = c.toNat := by rw [bv_natL]; omega
  have ho : 2 ^ 8 * a.toNat + c.toNat = 2 ^ 8 * a.toNat ||| c.toNat := Nat.two_pow_add_eq_or_of_lt (by omega) _
  show (jI (256 * a) ||| jI c).toBitVec.toInt = _
  rw [BitVec.toInt_eq_toNat_cond, e, BitVec.toNat_or, na, nc, ← ho]
  split <;> omega
theorem w8_b {f : Nat → Int} {s : Nat} : ∀ n, n ≤ 6 → (∀ k, k < n → isL (f (s + k))) → 0 ≤ w8 f s n ∧ w8 f s n < 256 ^ n := by
  intro n
  induction n with
  | zero => intro _ _; exact ⟨Int.le_refl _, (by decide : (0 : Int) < 256 ^ 0)⟩
  | succ n ih =>
    intro h6 h
    have h1 := ih (by omega) (fun k hk => h k (by omega))
    have h2 := h n (by omega)
    have e : (256 : Int) ^ (n + 1) = 256 * 256 ^ n := by rw [Int.pow_succ]; omega
    show 0 ≤ 256 * w8 f s n + f (s + n) ∧ 256 * w8 f s n + f (s + n) < 256 ^ (n + 1)
    rw [e]
    omega
theorem w8_48 {f : Nat → Int} {s n : Nat} (h6 : n ≤ 5) (h : ∀ k, k < n → isL (f (s + k))) : 0 ≤ w8 f s n ∧ w8 f s n < 281474976710656 := by
  have h1 := w8_b (f := f) (s := s) n (by omega) h
  have h2 : (256 : Nat) ^ n ≤ 256 ^ 6 := Nat.pow_le_pow_right (by decide) (by omega)
  have h3 : ((256 ^ n : Nat) : Int) = 256 ^ n := by simp
  have h4 : (256 : Nat) ^ 6 = 281474976710656 := by decide
  omega

theorem ah_loopW {f : Nat → Int} {N s : Nat} {A u : St} {F z20 z24 : Int} (hE : EM f N A) (h20 : ¬ z20 = 0) (h24 : z24 = 0) : ∀ (nn n : Nat) (B : St), s + n ≤ N → (∀ k, k < n → isL (f (s + k))) → (∀ k, B 1 k = A 1 k) → B 0 3 = 1 → B 0 4 = (s : Int) → (n ≤ 6 → B 0 8 = F ∧ B 0 7 = w8 f s n) → (6 < n → 1 ≤ B 0 8) → d_X12_ahead_10 z20 z24 6 A u nn (n : Int) ((s + n : Nat) : Int) B → u 0 3 = 1 ∧ u 0 4 = (s : Int) ∧ u 0 5 = ((rnn 97 122 f (N - (s + n)) (s + n) : Nat) : Int) ∧ (rnn 97 122 f (N - (s + n)) (s + n) ≤ s + 6 → u 0 8 = F ∧ u 0 7 = w8 f s (rnn 97 122 f (N - (s + n)) (s + n) - s)) ∧ (s + 6 < rnn 97 122 f (N - (s + n)) (s + n) → 1 ≤ u 0 8) := by
  intro nn
  induction nn with
  | zero => intro n B _ _ _ _ _ _ _ h; exact h.elim
  | succ m ih =>
    intro n B hN hL b1 b3 b4 b8 b9 h
    obtain ⟨hI, _, _, h⟩ := (h : tr_d_X12_ahead_10 z20 z24 6 A u (fun z73 z74 A76 => d_X12_ahead_10 z20 z24 6 A u m z73 z74 A76) n ((s + n : Nat) : Int) B)
    rw [hE.1] at h
    have fin : rnn 97 122 f (N - (s + n)) (s + n) = s + n → ∀ A92 : St, A92 = stA B 0 5 ((s + n : Nat) : Int) → u = A92 → u 0 3 = 1 ∧ u 0 4 = (s : Int) ∧ u 0 5 = ((rnn 97 122 f (N - (s + n)) (s + n) : Nat) : Int) ∧ (rnn 97 122 f (N - (s + n)) (s + n) ≤ s + 6 → u 0 8 = F ∧ u 0 7 = w8 f s (rnn 97 122 f (N - (s + n)) (s + n) - s)) ∧ (s + 6 < rnn 97 122 f (N - (s + n)) (s + n) → 1 ≤ u 0 8) := by
      intro e A92 hA hu
      rw [e, hu, hA]
      refine ⟨b3, b4, rfl, fun g => ?_, fun g => b9 (by omega)⟩
      rw [show s + n - s = n by omega]
      exact b8 (by omega)
    rcases h with ⟨c, A92, hA, hu⟩ | ⟨c, h⟩
    · exact fin (rnn_stop (Or.inl (by omega))) A92 hA hu
    · have hq : s + n < N := by omega
      have key : ∀ zc zt : Int, zc = B 1 (((s + n : Nat) : Int)).toNat → (zt = 1 ↔ 97 ≤ zc ∧ zc ≤ 122) → (0 ≤ zt ∧ zt ≤ 1) → ((zt = 0 ∧ ∃ A106 : St, A106 = stA B 0 5 ((s + n : Nat) : Int) ∧ u = A106) ∨ (¬ zt = 0 ∧ d_X12_ahead_11 (fun z73 z74 A76 => d_X12_ahead_10 z20 z24 6 A u m z73 z74 A76) z20 z24 6 n ((s + n : Nat) : Int) B u)) → u 0 3 = 1 ∧ u 0 4 = (s : Int) ∧ u 0 5 = ((rnn 97 122 f (N - (s + n)) (s + n) : Nat) : Int) ∧ (rnn 97 122 f (N - (s + n)) (s + n) ≤ s + 6 → u 0 8 = F ∧ u 0 7 = w8 f s (rnn 97 122 f (N - (s + n)) (s + n) - s)) ∧ (s + 6 < rnn 97 122 f (N - (s + n)) (s + n) → 1 ≤ u 0 8) := by
        intro zc zt hzc hzt hr h
        have hf : f (s + n) = zc := by rw [hzc, Int.toNat_natCast, b1]; exact hE.2.2 _ hq
        rcases h with ⟨c2, A106, hA, hu⟩ | ⟨c2, h⟩
        · exact fin (rnn_stop (Or.inr (by omega))) A106 hA hu
        · have hl : 97 ≤ f (s + n) ∧ f (s + n) ≤ 122 := by have := hzt.mp (by omega); omega
          rw [rnn_go hq hl]
          have hL2 : ∀ k, k < n + 1 → isL (f (s + k)) := fun k hk => by
            by_cases g : k < n
            · exact hL k g
            · rw [show k = n by omega]; exact hl
          have nx : ∀ B2 : St, (∀ k, B2 1 k = A 1 k) → B2 0 3 = 1 → B2 0 4 = (s : Int) → (n + 1 ≤ 6 → B2 0 8 = F ∧ B2 0 7 = w8 f s (n + 1)) → (6 < n + 1 → 1 ≤ B2 0 8) → d_X12_ahead_14 (fun z73 z74 A76 => d_X12_ahead_10 z20 z24 6 A u m z73 z74 A76) n ((s + n : Nat) : Int) u B2 → u 0 3 = 1 ∧ u 0 4 = (s : Int) ∧ u 0 5 = ((rnn 97 122 f (N - (s + n + 1)) (s + n + 1) : Nat) : Int) ∧ (rnn 97 122 f (N - (s + n + 1)) (s + n + 1) ≤ s + 6 → u 0 8 = F ∧ u 0 7 = w8 f s (rnn 97 122 f (N - (s + n + 1)) (s + n + 1) - s)) ∧ (s + 6 < rnn 97 122 f (N - (s + n + 1)) (s + n + 1) → 1 ≤ u 0 8) := by
            intro B2 g1 g3 g4 g8 g9 h
            obtain ⟨_, h⟩ := (h : tr_d_X12_ahead_14 _ n ((s + n : Nat) : Int) u B2)
            exact ih (n + 1) B2 (by omega) hL2 g1 g3 g4 g8 g9 h
          rcases (h : tr_d_X12_ahead_11 _ z20 z24 6 n ((s + n : Nat) : Int) B u) with ⟨c3, h⟩ | ⟨c3, A111, hb, h⟩
          · obtain ⟨_, h⟩ := (h : tr_d_X12_ahead_12 _ z20 z24 6 n ((s + n : Nat) : Int) B u B)
            rcases h with ⟨c4, h⟩ | ⟨c4, h⟩
            · obtain ⟨_, h⟩ := (h : tr_d_X12_ahead_13 _ z24 6 n ((s + n : Nat) : Int) B u B)
              rcases h with ⟨_, h⟩ | ⟨c5, _⟩
              · exact nx B b1 b3 b4 (fun g => by omega) (fun _ => b9 (by omega)) h
              · omega
            · rcases h with ⟨c5, _⟩ | ⟨_, z121, hz1, z122, hz2, z123, hz3, A138, hA, h⟩
              · exact absurd c5 h20
              · obtain ⟨_, h⟩ := (h : tr_d_X12_ahead_13 _ z24 6 n ((s + n : Nat) : Int) B u A138)
                rcases h with ⟨c5, _⟩ | ⟨_, h⟩
                · omega
                · rcases h with ⟨_, h⟩ | ⟨c5, _⟩
                  · refine nx A138 (fun k => by rw [hA]; exact b1 k) (by rw [hA]; exact b3) (by rw [hA]; exact b4) (fun g => ?_) (fun g => by omega) h
                    have b := b8 (by omega)
                    refine ⟨by rw [hA]; exact b.1, ?_⟩
                    have e : z123 = 256 * w8 f s n + f (s + n) := by
                      have w := w8_48 (f := f) (s := s) (n := n) (by omega) hL
                      rw [hz3, hz1, b.2, hz2, ← hzc, ← hf, pShl8 w]
                      exact pOr8 w ⟨by omega, by omega⟩
                    rw [hA]
                    exact e
                  · exact absurd h24 c5
          · have n6 : n = 6 := by omega
            have fb := hb.2.2.1
            have f1 : A111 1 = B 1 := fb.1 1 (by decide) rfl
            obtain ⟨_, h⟩ := (h : tr_d_X12_ahead_12 _ z20 z24 6 n ((s + n : Nat) : Int) B u A111)
            rcases h with ⟨_, h⟩ | ⟨c4, _⟩
            · obtain ⟨_, h⟩ := (h : tr_d_X12_ahead_13 _ z24 6 n ((s + n : Nat) : Int) B u A111)
              rcases h with ⟨_, h⟩ | ⟨c5, _⟩
              · exact nx A111 (fun k => by rw [f1]; exact b1 k) ((fb.2 3 rfl).trans b3) ((fb.2 4 rfl).trans b4) (fun g => by omega) (fun _ => hb.2.2.2) h
              · omega
            · omega
      rcases h with ⟨c2, _⟩ | ⟨_, z101, hz, z102, hq, h⟩
      · exact absurd c2 h20
      · exact key z101 z102 hz hq.2.2 hq.2.1 h

theorem ah_loopN {f : Nat → Int} {N s : Nat} {A u : St} {F z20 z24 : Int} (hE : EM f N A) (h20 : z20 = 0) (h24 : ¬ z24 = 0) : ∀ (nn n : Nat) (B : St), s + n ≤ N → (∀ k, k < n → isD (f (s + k))) → (∀ k, B 1 k = A 1 k) → B 0 3 = 2 → B 0 4 = (s : Int) → (n ≤ 4 → B 0 8 = F ∧ B 0 6 = nm10 f s n) → (4 < n → 1 ≤ B 0 8) → d_X12_ahead_10 z20 z24 4 A u nn (n : Int) ((s + n : Nat) : Int) B → u 0 3 = 2 ∧ u 0 4 = (s : Int) ∧ u 0 5 = ((rnn 48 57 f (N - (s + n)) (s + n) : Nat) : Int) ∧ (rnn 48 57 f (N - (s + n)) (s + n) ≤ s + 4 → u 0 8 = F ∧ u 0 6 = nm10 f s (rnn 48 57 f (N - (s + n)) (s + n) - s)) ∧ (s + 4 < rnn 48 57 f (N - (s + n)) (s + n) → 1 ≤ u 0 8) := by
  intro nn
  induction nn with
  | zero => intro n B _ _ _ _ _ _ _ h; exact h.elim
  | succ m ih =>
    intro n B hN hL b1 b3 b4 b8 b9 h
    obtain ⟨hI, _, _, h⟩ := (h : tr_d_X12_ahead_10 z20 z24 4 A u (fun z73 z74 A76 => d_X12_ahead_10 z20 z24 4 A u m z73 z74 A76) n ((s + n : Nat) : Int) B)
    rw [hE.1] at h
    have fin : rnn 48 57 f (N - (s + n)) (s + n) = s + n → ∀ A92 : St, A92 = stA B 0 5 ((s + n : Nat) : Int) → u = A92 → u 0 3 = 2 ∧ u 0 4 = (s : Int) ∧ u 0 5 = ((rnn 48 57 f (N - (s + n)) (s + n) : Nat) : Int) ∧ (rnn 48 57 f (N - (s + n)) (s + n) ≤ s + 4 → u 0 8 = F ∧ u 0 6 = nm10 f s (rnn 48 57 f (N - (s + n)) (s + n) - s)) ∧ (s + 4 < rnn 48 57 f (N - (s + n)) (s + n) → 1 ≤ u 0 8) := by
      intro e A92 hA hu
      rw [e, hu, hA]
      refine ⟨b3, b4, rfl, fun g => ?_, fun g => b9 (by omega)⟩
      rw [show s + n - s = n by omega]
      exact b8 (by omega)
    rcases h with ⟨c, A92, hA, hu⟩ | ⟨c, h⟩
    · exact fin (rnn_stop (Or.inl (by omega))) A92 hA hu
    · have hq : s + n < N := by omega
      have key : ∀ zc zt : Int, zc = B 1 (((s + n : Nat) : Int)).toNat → (zt = 1 ↔ 48 ≤ zc ∧ zc ≤ 57) → (0 ≤ zt ∧ zt ≤ 1) → ((zt = 0 ∧ ∃ A106 : St, A106 = stA B 0 5 ((s + n : Nat) : Int) ∧ u = A106) ∨ (¬ zt = 0 ∧ d_X12_ahead_11 (fun z73 z74 A76 => d_X12_ahead_10 z20 z24 4 A u m z73 z74 A76) z20 z24 4 n ((s + n : Nat) : Int) B u)) → u 0 3 = 2 ∧ u 0 4 = (s : Int) ∧ u 0 5 = ((rnn 48 57 f (N - (s + n)) (s + n) : Nat) : Int) ∧ (rnn 48 57 f (N - (s + n)) (s + n) ≤ s + 4 → u 0 8 = F ∧ u 0 6 = nm10 f s (rnn 48 57 f (N - (s + n)) (s + n) - s)) ∧ (s + 4 < rnn 48 57 f (N - (s + n)) (s + n) → 1 ≤ u 0 8) := by
        intro zc zt hzc hzt hr h
        have hf : f (s + n) = zc := by rw [hzc, Int.toNat_natCast, b1]; exact hE.2.2 _ hq
        rcases h with ⟨c2, A106, hA, hu⟩ | ⟨c2, h⟩
        · exact fin (rnn_stop (Or.inr (by omega))) A106 hA hu
        · have hl : 48 ≤ f (s + n) ∧ f (s + n) ≤ 57 := by have := hzt.mp (by omega); omega
          rw [rnn_go hq hl]
          have hL2 : ∀ k, k < n + 1 → isD (f (s + k)) := fun k hk => by
            by_cases g : k < n
            · exact hL k g
            · rw [show k = n by omega]; exact hl
          have nx : ∀ B2 : St, (∀ k, B2 1 k = A 1 k) → B2 0 3 = 2 → B2 0 4 = (s : Int) → (n + 1 ≤ 4 → B2 0 8 = F ∧ B2 0 6 = nm10 f s (n + 1)) → (4 < n + 1 → 1 ≤ B2 0 8) → d_X12_ahead_14 (fun z73 z74 A76 => d_X12_ahead_10 z20 z24 4 A u m z73 z74 A76) n ((s + n : Nat) : Int) u B2 → u 0 3 = 2 ∧ u 0 4 = (s : Int) ∧ u 0 5 = ((rnn 48 57 f (N - (s + n + 1)) (s + n + 1) : Nat) : Int) ∧ (rnn 48 57 f (N - (s + n + 1)) (s + n + 1) ≤ s + 4 → u 0 8 = F ∧ u 0 6 = nm10 f s (rnn 48 57 f (N - (s + n + 1)) (s + n + 1) - s)) ∧ (s + 4 < rnn 48 57 f (N - (s + n + 1)) (s + n + 1) → 1 ≤ u 0 8) := by
            intro B2 g1 g3 g4 g8 g9 h
            obtain ⟨_, h⟩ := (h : tr_d_X12_ahead_14 _ n ((s + n : Nat) : Int) u B2)
            exact ih (n + 1) B2 (by omega) hL2 g1 g3 g4 g8 g9 h
          rcases (h : tr_d_X12_ahead_11 _ z20 z24 4 n ((s + n : Nat) : Int) B u) with ⟨c3, h⟩ | ⟨c3, A111, hb, h⟩
          · obtain ⟨_, h⟩ := (h : tr_d_X12_ahead_12 _ z20 z24 4 n ((s + n : Nat) : Int) B u B)
            have h12 : d_X12_ahead_13 (fun z73 z74 A76 => d_X12_ahead_10 z20 z24 4 A u m z73 z74 A76) z24 4 n ((s + n : Nat) : Int) B u B := by
              rcases h with ⟨_, h⟩ | ⟨_, h⟩
              · exact h
              · rcases h with ⟨_, h⟩ | ⟨c5, _⟩
                · exact h
                · exact absurd h20 c5
            obtain ⟨_, h⟩ := (h12 : tr_d_X12_ahead_13 _ z24 4 n ((s + n : Nat) : Int) B u B)
            rcases h with ⟨c4, h⟩ | ⟨c4, h⟩
            · exact nx B b1 b3 b4 (fun g => by omega) (fun _ => b9 (by omega)) h
            · rcases h with ⟨c5, _⟩ | ⟨_, z131, hz1, z132, hz2, z133, hz3, z134, hz4, h⟩
              · exact absurd c5 h24
              · refine nx (stA B 0 6 z134) (fun k => b1 k) b3 b4 (fun g => ?_) (fun g => by omega) h
                have b := b8 (by omega)
                refine ⟨b.1, ?_⟩
                have w := nm10_4 (f := f) (s := s) (n := n) hL (by omega)
                have g1 : z131 = 10 * nm10 f s n := by rw [hz1, b.2]; exact oWrap_id ⟨by omega, by omega⟩
                have g2 : z133 = z131 + z132 := by rw [hz3]; exact oWrap_id ⟨by rw [hz2, ← hzc, ← hf]; omega, by rw [hz2, ← hzc, ← hf]; omega⟩
                have g3 : z132 = f (s + n) := by rw [hz2, ← hzc, ← hf]
                have g4 : z134 = z133 - 48 := by rw [hz4]; exact oWrap_id ⟨by omega, by omega⟩
                show z134 = 10 * nm10 f s n + (f (s + n) - 48)
                omega
          · have n6 : n = 4 := by omega
            have fb := hb.2.2.1
            have f1 : A111 1 = B 1 := fb.1 1 (by decide) rfl
            obtain ⟨_, h⟩ := (h : tr_d_X12_ahead_12 _ z20 z24 4 n ((s + n : Nat) : Int) B u A111)
            rcases h with ⟨_, h⟩ | ⟨c4, _⟩
            · obtain ⟨_, h⟩ := (h : tr_d_X12_ahead_13 _ z24 4 n ((s + n : Nat) : Int) B u A111)
              rcases h with ⟨_, h⟩ | ⟨c5, _⟩
              · exact nx A111 (fun k => by rw [f1]; exact b1 k) ((fb.2 3 rfl).trans b3) ((fb.2 4 rfl).trans b4) (fun g => by omega) (fun _ => hb.2.2.2) h
              · omega
            · omega
      rcases h with ⟨_, z95, hz, z96, hq, h⟩ | ⟨c2, _⟩
      · exact key z95 z96 hz hq.2.2 hq.2.1 h
      · exact absurd h20 c2
