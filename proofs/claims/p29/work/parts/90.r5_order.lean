/-! The order of musts: both answer alike. -/
def ahP (fa ta fb tb a b : Int) : Prop := fa < fb ∨ (fa = fb ∧ tb < ta) ∨ (fa = fb ∧ ta = tb ∧ a < b)
theorem ah_K {ta : Nat} {x2 x3 z : Int} {A : St} (h : q_X2_isAhead ta x2 x3 A z) : (z = 1 ∧ ahP (A (ta + 14) x2.toNat) (A (ta + 15) x2.toNat) (A (ta + 14) x3.toNat) (A (ta + 15) x3.toNat) x2 x3) ∨ (z = 0 ∧ ¬ ahP (A (ta + 14) x2.toNat) (A (ta + 15) x2.toNat) (A (ta + 14) x3.toNat) (A (ta + 15) x3.toNat) x2 x3) := by
  obtain ⟨z1, e1, z2, e2, h⟩ := (h.1 : tr_r_X2_isAhead ta x2 x3 A z)
  unfold ahP
  rw [← e1, ← e2]
  rcases h with ⟨c, z4, e4, z5, e5, h⟩ | ⟨c, h⟩
  · rw [← e4, ← e5]
    rcases h with ⟨c2, h⟩ | ⟨c2, h⟩
    · rcases h with ⟨c3, hz⟩ | ⟨c3, hz⟩
      · exact Or.inr ⟨hz, by omega⟩
      · exact Or.inl ⟨hz, by omega⟩
    · rcases h with ⟨c3, hz⟩ | ⟨c3, hz⟩
      · exact Or.inr ⟨hz, by omega⟩
      · exact Or.inl ⟨hz, by omega⟩
  · rcases h with ⟨c3, hz⟩ | ⟨c3, hz⟩
    · exact Or.inr ⟨hz, by omega⟩
    · exact Or.inl ⟨hz, by omega⟩
theorem ah_M {x1 x2 z : Int} {A : St} (h : q_X12_isAhead x1 x2 A z) : (z = 1 ∧ ahP (A 27 (6 * (A 0 12) + x1).toNat) (A 28 (6 * (A 0 12) + x1).toNat) (A 27 (6 * (A 0 12) + x2).toNat) (A 28 (6 * (A 0 12) + x2).toNat) x1 x2) ∨ (z = 0 ∧ ¬ ahP (A 27 (6 * (A 0 12) + x1).toNat) (A 28 (6 * (A 0 12) + x1).toNat) (A 27 (6 * (A 0 12) + x2).toNat) (A 28 (6 * (A 0 12) + x2).toNat) x1 x2) := by
  obtain ⟨z1, e1, z2, e2, h⟩ := (h.1 : tr_r_X12_isAhead x1 x2 A z)
  unfold ahP
  rw [← e1, ← e2] at h ⊢
  rcases h with ⟨c, z4, e4, z5, e5, h⟩ | ⟨c, z11, e11, z12, e12, h⟩
  · rw [← e4, ← e5] at h ⊢
    rcases h with ⟨c2, h⟩ | ⟨c2, z8, e8, z9, e9, h⟩
    · rcases h with ⟨c3, hz⟩ | ⟨c3, hz⟩
      · exact Or.inr ⟨hz, by omega⟩
      · exact Or.inl ⟨hz, by omega⟩
    · rcases h with ⟨c3, hz⟩ | ⟨c3, hz⟩
      · exact Or.inr ⟨hz, by omega⟩
      · exact Or.inl ⟨hz, by omega⟩
  · rcases h with ⟨c3, hz⟩ | ⟨c3, hz⟩
    · exact Or.inr ⟨hz, by omega⟩
    · exact Or.inl ⟨hz, by omega⟩
/-- no must has a number of others ahead that is not below the count of all -/
theorem order_out {x z : Int} {A : St} (hIM : IM A) (hx : ¬ (0 ≤ x ∧ x < A 25 (A 0 12).toNat)) (h : r_X12_order x A z) : z = -1 := by
  have r25 : A 25 (A 0 12).toNat ≤ 6 := (hIM 25 _).2
  obtain ⟨n, h⟩ := (h : tr_r_X12_order x A z)
  have inner : ∀ (a : Nat) (K : Int → Prop), (a : Int) < A 25 (A 0 12).toNat → (K ((a : Int) + 1) → z = -1) → ∀ (n j : Nat) (c : Int), 0 ≤ c → c ≤ (j : Int) → (a < j → c + 1 ≤ (j : Int)) → (j : Int) ≤ A 25 (A 0 12).toNat → d_X12_order_2 K x (a : Int) A z n (j : Int) c → z = -1 := by
    intro a K ha hk n
    induction n with
    | zero => intro j c _ _ _ _ h; exact h.elim
    | succ n ih =>
      intro j c c0 c1 c2 hj h
      obtain ⟨r1, r2, z21, e21, h⟩ := (h : tr_d_X12_order_2 K x (a : Int) A z (fun z11 z12 => d_X12_order_2 K x (a : Int) A z n z11 z12) j c)
      rcases h with ⟨g, h⟩ | ⟨g, z24, hq, h⟩
      · rcases h with ⟨_, h⟩ | ⟨g2, _⟩
        · exact hk h
        · exact absurd ⟨by omega, by have := c2 (by omega); omega⟩ hx
      · have hm := ah_M hq
        have st : ∀ y : Int, (y = 0 ∨ y = 1) → (j = a → y = 0) → d_X12_order_3 (fun z11 z12 => d_X12_order_2 K x (a : Int) A z n z11 z12) (j : Int) c z y → z = -1 := by
          intro y hy hy2 h
          obtain ⟨_, z33, e33, h⟩ := (h : tr_d_X12_order_3 _ (j : Int) c z y)
          have e33 : z33 = c + y := by rw [e33]; exact oWrap_id ⟨by omega, by omega⟩
          rw [e33] at h
          refine ih (j + 1) (c + y) (by omega) (by omega) (fun g3 => ?_) (by omega) h
          by_cases e : j = a
          · have := hy2 e
            omega
          · have := c2 (by omega)
            omega
        rcases h with ⟨g2, h⟩ | ⟨g2, h⟩
        · exact st 0 (Or.inl rfl) (fun _ => rfl) h
        · refine st 1 (Or.inr rfl) (fun e => ?_) h
          rcases hm with ⟨_, g3⟩ | ⟨g3, _⟩
          · unfold ahP at g3
            rw [e] at g3
            omega
          · exact absurd g3 g2
  have outer : ∀ (n a : Nat), d_X12_order_1 x A z n (a : Int) → z = -1 := by
    intro n
    induction n with
    | zero => intro a h; exact h.elim
    | succ n ih =>
      intro a h
      obtain ⟨_, z9, e9, h⟩ := (h : tr_d_X12_order_1 x A z (fun z1 => d_X12_order_1 x A z n z1) a)
      rcases h with ⟨_, hz⟩ | ⟨g, m, h⟩
      · exact hz
      · exact inner a _ (by omega) (fun k => ih (a + 1) k) m 0 0 (by omega) (by omega) (fun g => absurd g (by omega)) (by omega) h
  exact outer n 0 h
theorem order_eq {x z1 z2 : Int} {B A : St} (hIK : IK B) (hIM : IM A) (hp : PSs B A) (h1 : r_X11_order x B z1) (h2 : r_X12_order x A z2) : z1 = z2 := by
  obtain ⟨t, ht, z3, hq, h1⟩ := (h1 : tr_r_X11_order x B z1)
  have hn := must_n hp ht
  have k6 := thr6 hq
  rcases h1 with ⟨c, hz⟩ | ⟨c, z7, hq7, hz⟩
  · rw [hz, order_out hIM ?_ h2]
    rcases k6 with ⟨g, _⟩ | ⟨_, g⟩
    · rw [g] at c; exact absurd c (by decide)
    · rw [hn]; exact g
  · rw [hz]
    clear hz
    obtain ⟨n1, h1⟩ := (hq7.1 : tr_r_X2_inOrder t x B z7)
    obtain ⟨n2, h2⟩ := (h2 : tr_r_X12_order x A z2)
    have inner : ∀ (a : Nat) (K1 K2 : Int → Prop), (a : Int) < A 25 (A 0 12).toNat → (K1 ((a : Int) + 1) → K2 ((a : Int) + 1) → z7 = z2) → ∀ (n1 n2 j : Nat) (c : Int), d_X2_inOrder_2 K1 t x (a : Int) (B (t + 1) 6) B z7 n1 (j : Int) c → d_X12_order_2 K2 x (a : Int) A z2 n2 (j : Int) c → z7 = z2 := by
      intro a K1 K2 ha hk n1
      induction n1 with
      | zero => intro n2 j c h _; exact h.elim
      | succ n1 ih =>
        intro n2 j c h1 h2
        cases n2 with
        | zero => exact h2.elim
        | succ n2 =>
          obtain ⟨_, _, h1⟩ := (h1 : tr_d_X2_inOrder_2 K1 t x (a : Int) (B (t + 1) 6) B z7 (fun z10 z11 => d_X2_inOrder_2 K1 t x (a : Int) (B (t + 1) 6) B z7 n1 z10 z11) j c)
          obtain ⟨_, rc, z21, e21, h2⟩ := (h2 : tr_d_X12_order_2 K2 x (a : Int) A z2 (fun z11 z12 => d_X12_order_2 K2 x (a : Int) A z2 n2 z11 z12) j c)
          rw [hn] at e21
          rcases h1 with ⟨g, h1⟩ | ⟨g, z22, q1, h1⟩
          · rcases h2 with ⟨_, h2⟩ | ⟨g2, _⟩
            · rcases h1 with ⟨g3, h1⟩ | ⟨g3, hz⟩
              · rcases h2 with ⟨_, h2⟩ | ⟨g4, _⟩
                · exact hk h1 h2
                · exact absurd g4 g3
              · rcases h2 with ⟨g4, _⟩ | ⟨_, hz2⟩
                · exact absurd g3 g4
                · rw [hz, hz2]
            · exact absurd (by rw [e21]; exact g) g2
          · rcases h2 with ⟨g2, _⟩ | ⟨_, z24, q2, h2⟩
            · exact absurd (by rw [← e21]; exact g2) g
            · have hj : (j : Int) < A 25 (A 0 12).toNat := by rw [hn]; omega
              have m1 := must_at hIK hIM hp ha ht
              have m2 := must_at hIK hIM hp hj ht
              have aM := ah_M q2
              have aK := ah_K q1
              rw [m1.2.1, m1.2.2, m2.2.1, m2.2.2] at aM
              rw [Int.toNat_natCast, Int.toNat_natCast] at aK
              rcases h1 with ⟨g3, h1⟩ | ⟨g3, z27, e27, h1⟩
              · rcases h2 with ⟨_, h2⟩ | ⟨g4, _⟩
                · obtain ⟨_, h1⟩ := (h1 : tr_d_X2_inOrder_3 _ (j : Int) z7 c)
                  obtain ⟨_, z33, e33, h2⟩ := (h2 : tr_d_X12_order_3 _ (j : Int) c z2 0)
                  have e33 : z33 = c := by
                    rw [e33, Int.add_zero]
                    exact oWrap_id rc
                  rw [e33] at h2
                  exact ih n2 (j + 1) c h1 h2
                · rcases aM with ⟨_, gm⟩ | ⟨gm, _⟩
                  · rcases aK with ⟨gk, _⟩ | ⟨_, gk⟩
                    · rw [gk] at g3; exact absurd g3 (by decide)
                    · exact absurd gm gk
                  · exact absurd gm g4
              · rcases h2 with ⟨g4, _⟩ | ⟨_, h2⟩
                · rcases aM with ⟨gm, _⟩ | ⟨_, gm⟩
                  · rw [gm] at g4; exact absurd g4 (by decide)
                  · rcases aK with ⟨_, gk⟩ | ⟨gk, _⟩
                    · exact absurd gk gm
                    · exact absurd gk g3
                · obtain ⟨_, h1⟩ := (h1 : tr_d_X2_inOrder_3 _ (j : Int) z7 z27)
                  obtain ⟨_, z33, e33, h2⟩ := (h2 : tr_d_X12_order_3 _ (j : Int) c z2 1)
                  rw [e33, ← e27] at h2
                  exact ih n2 (j + 1) z27 h1 h2
    have outer : ∀ (n1 n2 a : Nat), d_X2_inOrder_1 t x B z7 n1 (a : Int) → d_X12_order_1 x A z2 n2 (a : Int) → z7 = z2 := by
      intro n1
      induction n1 with
      | zero => intro n2 a h _; exact h.elim
      | succ n1 ih =>
        intro n2 a h1 h2
        cases n2 with
        | zero => exact h2.elim
        | succ n2 =>
          obtain ⟨_, z8, e8, h1⟩ := (h1 : tr_d_X2_inOrder_1 t x B z7 (fun z1' => d_X2_inOrder_1 t x B z7 n1 z1') a)
          obtain ⟨_, z9, e9, h2⟩ := (h2 : tr_d_X12_order_1 x A z2 (fun z1 => d_X12_order_1 x A z2 n2 z1) a)
          have e8 : z8 = B (t + 1) 6 := e8
          rw [hn] at e9
          rcases h1 with ⟨g, hz⟩ | ⟨g, m1, h1⟩
          · rcases h2 with ⟨_, hz2⟩ | ⟨g2, _⟩
            · rw [hz, hz2]
            · exact absurd (by rw [e9, ← e8]; exact g) g2
          · rcases h2 with ⟨g2, _⟩ | ⟨_, m2, h2⟩
            · exact absurd (by rw [e8, ← e9]; exact g2) g
            · rw [e8] at h1
              exact inner a _ _ (by rw [hn, ← e8]; omega) (fun k1 k2 => ih n2 (a + 1) k1 k2) m1 m2 0 0 h1 h2
    exact outer n1 n2 0 h1 h2
