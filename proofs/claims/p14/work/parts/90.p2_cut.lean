/-! The class's reader of tokens: what its methods do is what tKind, tEnd say. -/
def own5L : List Int := [5342608, 605668, 25058, 25771, 486131888, 7808276, 20592695, 675501, 18466, 19496, 677139, 675308, 641, 457, 802, 464151, 591, 4545, 20974, 12673, 15639, 671251, 648363, 140098947, 14637, 24621]
def own5 (k : Nat) : Int := own5L.getD k 0
def ET (f : Nat → Int) (N : Nat) (B : St) : Prop := B 1 1 = (N : Int) ∧ N ≤ 1600 ∧ (∀ k, k < N → f k = B 2 k % 256) ∧ ∀ k, k < 26 → B 4 k = own5 k
def EK (f : Nat → Int) (N : Nat) (B : St) : Prop := IK B ∧ ET f N B
theorem EK.fr {f : Nat → Int} {N : Nat} {B u : St} {P : List Nat} {F : List (Nat × Nat)} (h : EK f N B) (hI : IK u) (hf : fk P F B u) (p1 : P.contains 1 = false) (p2 : P.contains 2 = false) (p4 : P.contains 4 = false) (f1 : fin2 F 1 1 = false) (f2 : ∀ k, fin2 F 2 k = false) (f4 : ∀ k, fin2 F 4 k = false) : EK f N u := by
  refine ⟨hI, by rw [hf 1 1 p1 f1]; exact h.2.1, h.2.2.1, fun k hk => ?_, fun k hk => ?_⟩
  · rw [hf 2 k p2 (f2 k)]
    exact h.2.2.2.1 k hk
  · rw [hf 4 k p4 (f4 k)]
    exact h.2.2.2.2 k hk
theorem cut_loopW {f : Nat → Int} {N s : Nat} {A A9 u : St} (hT : ET f N A) (h3 : A 5 3 = (s : Int)) (h2 : ∀ k, A9 2 k = A 2 k) : ∀ nn q (A11 : St), A11 = stA (stA A9 5 4 (w5 f s (q - s))) 5 1 (q : Int) → s ≤ q → q ≤ N → q ≤ s + 6 → (∀ k, k < q - s → isL (f (s + k))) → d_X3_cut_2 1 97 122 6 A u nn A11 → (s + 6 < rnn 97 122 f (N - q) q ∧ u 5 2 = 4 ∧ u 5 6 = A9 5 6) ∨ (rnn 97 122 f (N - q) q ≤ s + 6 ∧ u = stA (stA (stA A9 5 4 (w5 f s (rnn 97 122 f (N - q) q - s))) 5 1 ((rnn 97 122 f (N - q) q : Nat) : Int)) 5 5 ((rnn 97 122 f (N - q) q : Nat) : Int)) := by
  intro nn
  induction nn with
  | zero => intro q A11 _ _ _ _ _ h; exact h.elim
  | succ n ih =>
    intro q A11 hA h1 h4 h5 hL h
    have a1 : A11 5 1 = (q : Int) := by rw [hA]; rfl
    have a4 : A11 5 4 = w5 f s (q - s) := by rw [hA]; rfl
    have a2 : ∀ k, A11 2 k = A 2 k := fun k => by rw [hA]; exact h2 k
    have a6 : A11 5 6 = A9 5 6 := by rw [hA]; rfl
    obtain ⟨hI, h⟩ := (h : tr_d_X3_cut_2 1 97 122 6 A u (fun A11 => d_X3_cut_2 1 97 122 6 A u n A11) A11)
    rw [a1, hT.1] at h
    rcases h with ⟨c, A22, rfl, rfl⟩ | ⟨c, z27, hz, h⟩
    · rw [rnn_stop (Or.inl (by omega))]
      exact Or.inr ⟨h5, by rw [hA]⟩
    · have hq : q < N := by omega
      have hf : f q = z27 % 256 := by
        rw [hz, Int.toNat_natCast, a2]
        exact hT.2.2.1 q hq
      have hr : -128 ≤ z27 ∧ z27 ≤ 127 := by rw [hz]; exact irTPb hI
      rcases h with ⟨c2, A29, rfl, rfl⟩ | ⟨c2, h⟩
      · rw [rnn_stop (Or.inr (by omega))]
        exact Or.inr ⟨h5, by rw [hA]⟩
      · rcases h with ⟨c3, A32, rfl, rfl⟩ | ⟨c3, h⟩
        · rw [rnn_stop (Or.inr (by omega))]
          exact Or.inr ⟨h5, by rw [hA]⟩
        · have hl : 97 ≤ f q ∧ f q ≤ 122 := by omega
          rw [rnn_go hq hl]
          rcases h with ⟨c4, h⟩ | ⟨c4, A53, rfl, A55, rfl, rfl⟩
          · rcases h with ⟨_, z41, hz41, z42, hz42, h⟩ | ⟨c5, _⟩
            · obtain ⟨_, A49, hA49, A51, hA51, h⟩ := (h : tr_d_X3_cut_3 _ A11 u z42)
              rw [h3] at hz41 c4
              have e1 : z42 = w5 f s (q + 1 - s) := by
                obtain ⟨i, hi⟩ : ∃ i, q = s + i := ⟨q - s, by omega⟩
                subst hi
                rw [hz42, hz41, a4, show s + i - s = i by omega, show (5 * ((s + i : Nat) : Int) - 5 * (s : Int)) = 5 * (i : Int) by omega]
                have b := w5_lt (f := f) (s := s) i (fun k hk => hL k (by omega))
                rw [w5_step (by omega) b (by omega), show s + i + 1 - s = i + 1 by omega]
                show _ = w5 f s i + (f (s + i) - 96) * 32 ^ i
                rw [show z27 - 97 + 1 = f (s + i) - 96 by omega]
              have e2 : A51 = stA (stA A9 5 4 (w5 f s (q + 1 - s))) 5 1 ((q + 1 : Nat) : Int) := by
                rw [hA51, hA49, e1, a1, hA, stA_comm _ 5 (i := 4) (i' := 1) _ _ (by decide), stA_stA, stA_comm _ 5 (i := 1) (i' := 4) _ _ (by decide), stA_stA]
                rfl
              exact ih (q + 1) A51 e2 (by omega) (by omega) (by omega) (fun k hk => by
                by_cases hk2 : k < q - s
                · exact hL k hk2
                · rw [show s + k = q by omega]; exact hl) h
            · exact absurd c5 (by decide)
          · rw [h3] at c4
            have := (rnn_le 97 122 f (N - (q + 1)) (q + 1)).1
            exact Or.inl ⟨by omega, rfl, a6⟩
