/-! Crossing musts: both answer alike. -/
def cxP (fa ta da fb tb db : Int) (a b : Int) : Prop := (fa < fb ∧ fb < ta ∧ ta < tb) ∨ (fb < fa ∧ fa < tb ∧ tb < ta) ∨ (¬ a = b ∧ da = db ∧ fa < tb ∧ fb < ta)
theorem crs_M {x1 x2 z : Int} {A : St} (h : q_X12_crosses x1 x2 A z) : (z = 1 ∧ cxP (A 27 (6 * (A 0 12) + x1).toNat) (A 28 (6 * (A 0 12) + x1).toNat) (A 26 (6 * (A 0 12) + x1).toNat) (A 27 (6 * (A 0 12) + x2).toNat) (A 28 (6 * (A 0 12) + x2).toNat) (A 26 (6 * (A 0 12) + x2).toNat) x1 x2) ∨ (z = 0 ∧ ¬ cxP (A 27 (6 * (A 0 12) + x1).toNat) (A 28 (6 * (A 0 12) + x1).toNat) (A 26 (6 * (A 0 12) + x1).toNat) (A 27 (6 * (A 0 12) + x2).toNat) (A 28 (6 * (A 0 12) + x2).toNat) (A 26 (6 * (A 0 12) + x2).toNat) x1 x2) := by
  obtain ⟨fa, hfa⟩ : ∃ v, A 27 (6 * (A 0 12) + x1).toNat = v := ⟨_, rfl⟩
  obtain ⟨ta, hta⟩ : ∃ v, A 28 (6 * (A 0 12) + x1).toNat = v := ⟨_, rfl⟩
  obtain ⟨da, hda⟩ : ∃ v, A 26 (6 * (A 0 12) + x1).toNat = v := ⟨_, rfl⟩
  obtain ⟨fb, hfb⟩ : ∃ v, A 27 (6 * (A 0 12) + x2).toNat = v := ⟨_, rfl⟩
  obtain ⟨tb, htb⟩ : ∃ v, A 28 (6 * (A 0 12) + x2).toNat = v := ⟨_, rfl⟩
  obtain ⟨db, hdb⟩ : ∃ v, A 26 (6 * (A 0 12) + x2).toNat = v := ⟨_, rfl⟩
  rw [hfa, hta, hda, hfb, htb, hdb]
  unfold cxP
  have c6 : ∀ z13 z29 z46 : Int, d_X12_crosses_6 z13 z29 z z46 → (z = 0 ∧ z13 = 0 ∧ z29 = 0 ∧ z46 = 0) ∨ (z = 1 ∧ (¬ z13 = 0 ∨ ¬ z29 = 0 ∨ ¬ z46 = 0)) := by
    intro z13 z29 z46 h
    obtain ⟨_, h⟩ := (h : tr_d_X12_crosses_6 z13 z29 z z46)
    rcases h with ⟨c, hz⟩ | ⟨c, h⟩
    · exact Or.inr ⟨hz, Or.inl c⟩
    · rcases h with ⟨c2, hz⟩ | ⟨c2, h⟩
      · exact Or.inr ⟨hz, Or.inr (Or.inl c2)⟩
      · rcases h with ⟨c3, hz⟩ | ⟨c3, hz⟩
        · exact Or.inl ⟨hz, c, c2, c3⟩
        · exact Or.inr ⟨hz, Or.inr (Or.inr c3)⟩
  have c4 : ∀ z13 z29 : Int, d_X12_crosses_4 x1 x2 z13 A z z29 → (z = 0 ∧ z13 = 0 ∧ z29 = 0 ∧ ¬ (¬ x1 = x2 ∧ da = db ∧ fa < tb ∧ fb < ta)) ∨ (z = 1 ∧ (¬ z13 = 0 ∨ ¬ z29 = 0 ∨ (¬ x1 = x2 ∧ da = db ∧ fa < tb ∧ fb < ta))) := by
    intro z13 z29 h
    obtain ⟨_, h⟩ := (h : tr_d_X12_crosses_4 x1 x2 z13 A z z29)
    rw [hda, hdb, hfa, htb, hfb, hta] at h
    have c5 : ¬ (¬ x1 = x2 ∧ da = db ∧ fa < tb ∧ fb < ta) → d_X12_crosses_5 z13 z29 z → (z = 0 ∧ z13 = 0 ∧ z29 = 0 ∧ ¬ (¬ x1 = x2 ∧ da = db ∧ fa < tb ∧ fb < ta)) ∨ (z = 1 ∧ (¬ z13 = 0 ∨ ¬ z29 = 0 ∨ (¬ x1 = x2 ∧ da = db ∧ fa < tb ∧ fb < ta))) := by
      intro hn h
      rcases c6 z13 z29 0 h with ⟨g1, g2, g3, _⟩ | ⟨g1, g2⟩
      · exact Or.inl ⟨g1, g2, g3, hn⟩
      · refine Or.inr ⟨g1, ?_⟩
        rcases g2 with g | g | g
        · exact Or.inl g
        · exact Or.inr (Or.inl g)
        · exact absurd rfl g
    rcases h with ⟨c, h⟩ | ⟨c, z36, e36, z37, e37, h⟩
    · exact c5 (fun g => g.1 c) h
    · rcases h with ⟨c2, h⟩ | ⟨c2, z39, e39, z40, e40, h⟩
      · exact c5 (fun g => c2 (by rw [e36, e37]; exact g.2.1)) h
      · rcases h with ⟨c3, h⟩ | ⟨c3, z42, e42, z43, e43, h⟩
        · exact c5 (fun g => by rw [e40, e39] at c3; have := g.2.2.1; omega) h
        · rcases h with ⟨c7, h⟩ | ⟨c7, h⟩
          · exact c5 (fun g => by rw [e43, e42] at c7; have := g.2.2.2; omega) h
          · rcases c6 z13 z29 1 h with ⟨_, _, _, g⟩ | ⟨g1, _⟩
            · exact absurd g (by decide)
            · exact Or.inr ⟨g1, Or.inr (Or.inr ⟨c, by rw [← e36, ← e37]; exact c2, by rw [e40, e39] at c3; omega, by rw [e43, e42] at c7; omega⟩)⟩
  have c2 : ∀ z13 : Int, d_X12_crosses_2 x1 x2 A z z13 → (z = 0 ∧ z13 = 0 ∧ ¬ (fb < fa ∧ fa < tb ∧ tb < ta) ∧ ¬ (¬ x1 = x2 ∧ da = db ∧ fa < tb ∧ fb < ta)) ∨ (z = 1 ∧ (¬ z13 = 0 ∨ (fb < fa ∧ fa < tb ∧ tb < ta) ∨ (¬ x1 = x2 ∧ da = db ∧ fa < tb ∧ fb < ta))) := by
    intro z13 h
    obtain ⟨_, z17, e17, z18, e18, h⟩ := (h : tr_d_X12_crosses_2 x1 x2 A z z13)
    rw [hfb] at e17
    rw [hfa] at e18
    have c3 : ¬ (fb < fa ∧ fa < tb ∧ tb < ta) → d_X12_crosses_3 x1 x2 z13 A z → (z = 0 ∧ z13 = 0 ∧ ¬ (fb < fa ∧ fa < tb ∧ tb < ta) ∧ ¬ (¬ x1 = x2 ∧ da = db ∧ fa < tb ∧ fb < ta)) ∨ (z = 1 ∧ (¬ z13 = 0 ∨ (fb < fa ∧ fa < tb ∧ tb < ta) ∨ (¬ x1 = x2 ∧ da = db ∧ fa < tb ∧ fb < ta))) := by
      intro hn h
      rcases c4 z13 0 h with ⟨g1, g2, _, g4⟩ | ⟨g1, g2⟩
      · exact Or.inl ⟨g1, g2, hn, g4⟩
      · refine Or.inr ⟨g1, ?_⟩
        rcases g2 with g | g | g
        · exact Or.inl g
        · exact absurd rfl g
        · exact Or.inr (Or.inr g)
    rw [hfa, htb, hta] at h
    rcases h with ⟨c, h⟩ | ⟨c, z22, e22, z23, e23, h⟩
    · exact c3 (fun g => by have := g.1; omega) h
    · rcases h with ⟨c', h⟩ | ⟨c', z25, e25, z26, e26, h⟩
      · exact c3 (fun g => by have := g.2.1; omega) h
      · rcases h with ⟨c'', h⟩ | ⟨c'', h⟩
        · exact c3 (fun g => by have := g.2.2; omega) h
        · rcases c4 z13 1 h with ⟨_, _, g, _⟩ | ⟨g1, _⟩
          · exact absurd g (by decide)
          · exact Or.inr ⟨g1, Or.inr (Or.inl ⟨by omega, by omega, by omega⟩)⟩
  have c1 : ¬ (fa < fb ∧ fb < ta ∧ ta < tb) → d_X12_crosses_1 x1 x2 A z → (z = 1 ∧ ((fa < fb ∧ fb < ta ∧ ta < tb) ∨ (fb < fa ∧ fa < tb ∧ tb < ta) ∨ (¬ x1 = x2 ∧ da = db ∧ fa < tb ∧ fb < ta))) ∨ (z = 0 ∧ ¬ ((fa < fb ∧ fb < ta ∧ ta < tb) ∨ (fb < fa ∧ fa < tb ∧ tb < ta) ∨ (¬ x1 = x2 ∧ da = db ∧ fa < tb ∧ fb < ta))) := by
    intro hn h
    rcases c2 0 h with ⟨g1, _, g3, g4⟩ | ⟨g1, g2⟩
    · refine Or.inr ⟨g1, ?_⟩
      rintro (g | g | g)
      · exact hn g
      · exact g3 g
      · exact g4 g
    · refine Or.inl ⟨g1, ?_⟩
      rcases g2 with g | g | g
      · exact absurd rfl g
      · exact Or.inr (Or.inl g)
      · exact Or.inr (Or.inr g)
  obtain ⟨z1, e1, z2, e2, h⟩ := (h.1 : tr_r_X12_crosses x1 x2 A z)
  rw [hfa] at e1
  rw [hfb] at e2
  rw [hfb, hta, htb] at h
  rcases h with ⟨c, h⟩ | ⟨c, z6, e6, z7, e7, h⟩
  · exact c1 (fun g => by have := g.1; omega) h
  · rcases h with ⟨c', h⟩ | ⟨c', z9, e9, z10, e10, h⟩
    · exact c1 (fun g => by have := g.2.1; omega) h
    · rcases h with ⟨c'', h⟩ | ⟨c'', h⟩
      · exact c1 (fun g => by have := g.2.2; omega) h
      · rcases c2 1 h with ⟨_, g, _⟩ | ⟨g1, _⟩
        · exact absurd g (by decide)
        · exact Or.inl ⟨g1, Or.inl ⟨by omega, by omega, by omega⟩⟩
theorem thr6 {ta : Nat} {x z : Int} {A : St} (h : q_X9_isThere_1_6 ta x A z) : (z = 1 ∧ 0 ≤ x ∧ x < A (ta + 1) 6) ∨ (z = 0 ∧ ¬ (0 ≤ x ∧ x < A (ta + 1) 6)) := by
  rcases (h.1 : tr_r_X9_isThere_1_6 ta x A z) with ⟨c, hz⟩ | ⟨c, z4, e4, h⟩
  · exact Or.inr ⟨hz, fun g => by omega⟩
  · have e4 : z4 = A (ta + 1) 6 := e4
    rcases h with ⟨c2, hz⟩ | ⟨c2, hz⟩
    · exact Or.inr ⟨hz, fun g => by omega⟩
    · exact Or.inl ⟨hz, by omega, by omega⟩
theorem crs_K {ta : Nat} {x2 x3 z : Int} {A : St} (h2 : 0 ≤ x2 ∧ x2 < A (ta + 1) 6) (h3 : 0 ≤ x3 ∧ x3 < A (ta + 1) 6) (hne : ¬ x2 = x3) (h : q_X2_areCrossing ta x2 x3 A z) : (z = 1 ∧ cxP (A (ta + 14) x2.toNat) (A (ta + 15) x2.toNat) (A (ta + 13) x2.toNat) (A (ta + 14) x3.toNat) (A (ta + 15) x3.toNat) (A (ta + 13) x3.toNat) x2 x3) ∨ (z = 0 ∧ ¬ cxP (A (ta + 14) x2.toNat) (A (ta + 15) x2.toNat) (A (ta + 13) x2.toNat) (A (ta + 14) x3.toNat) (A (ta + 15) x3.toNat) (A (ta + 13) x3.toNat) x2 x3) := by
  obtain ⟨z1, t1, h⟩ := (h.1 : tr_r_X2_areCrossing ta x2 x3 A z)
  unfold cxP
  rcases h with ⟨c, _⟩ | ⟨_, z5, t5, h⟩
  · rcases thr6 t1 with ⟨g, _⟩ | ⟨_, g⟩
    · rw [g] at c; exact absurd c (by decide)
    · exact absurd h2 g
  · rcases h with ⟨_, fa, e9, tA, e10, fb, e11, tB, e12, da, e13, db, e14, h⟩ | ⟨c, _⟩
    · rw [← e9, ← e10, ← e11, ← e12, ← e13, ← e14]
      have d2 : ¬ (da = db ∧ fa < tB ∧ fb < tA) → ¬ (fa < fb ∧ fb < tA ∧ tA < tB) → d_X2_areCrossing_2 fa tA fb tB z → (z = 1 ∧ ((fa < fb ∧ fb < tA ∧ tA < tB) ∨ (fb < fa ∧ fa < tB ∧ tB < tA) ∨ (¬ x2 = x3 ∧ da = db ∧ fa < tB ∧ fb < tA))) ∨ (z = 0 ∧ ¬ ((fa < fb ∧ fb < tA ∧ tA < tB) ∨ (fb < fa ∧ fa < tB ∧ tB < tA) ∨ (¬ x2 = x3 ∧ da = db ∧ fa < tB ∧ fb < tA))) := by
        intro n1 n2 h
        rcases (h : tr_d_X2_areCrossing_2 fa tA fb tB z) with ⟨c, hz⟩ | ⟨c, h⟩
        · refine Or.inr ⟨hz, ?_⟩
          rintro (g | g | g)
          · exact n2 g
          · omega
          · exact n1 g.2
        · rcases h with ⟨c2, hz⟩ | ⟨c2, h⟩
          · refine Or.inr ⟨hz, ?_⟩
            rintro (g | g | g)
            · exact n2 g
            · omega
            · exact n1 g.2
          · rcases h with ⟨c3, hz⟩ | ⟨c3, hz⟩
            · refine Or.inr ⟨hz, ?_⟩
              rintro (g | g | g)
              · exact n2 g
              · omega
              · exact n1 g.2
            · exact Or.inl ⟨hz, Or.inr (Or.inl ⟨by omega, by omega, by omega⟩)⟩
      have d1 : ¬ (da = db ∧ fa < tB ∧ fb < tA) → d_X2_areCrossing_1 fa tA fb tB z → (z = 1 ∧ ((fa < fb ∧ fb < tA ∧ tA < tB) ∨ (fb < fa ∧ fa < tB ∧ tB < tA) ∨ (¬ x2 = x3 ∧ da = db ∧ fa < tB ∧ fb < tA))) ∨ (z = 0 ∧ ¬ ((fa < fb ∧ fb < tA ∧ tA < tB) ∨ (fb < fa ∧ fa < tB ∧ tB < tA) ∨ (¬ x2 = x3 ∧ da = db ∧ fa < tB ∧ fb < tA))) := by
        intro n1 h
        rcases (h : tr_d_X2_areCrossing_1 fa tA fb tB z) with ⟨c, h⟩ | ⟨c, h⟩
        · exact d2 n1 (fun g => by omega) h
        · rcases h with ⟨c2, h⟩ | ⟨c2, h⟩
          · exact d2 n1 (fun g => by omega) h
          · rcases h with ⟨c3, hz⟩ | ⟨c3, h⟩
            · exact Or.inl ⟨hz, Or.inl ⟨by omega, by omega, c3⟩⟩
            · exact d2 n1 (fun g => by omega) h
      rcases h with ⟨c, h⟩ | ⟨c, h⟩
      · exact d1 (fun g => c g.1) h
      · rcases h with ⟨c2, h⟩ | ⟨c2, h⟩
        · exact d1 (fun g => by have := g.2.1; omega) h
        · rcases h with ⟨c3, h⟩ | ⟨c3, hz⟩
          · exact d1 (fun g => by have := g.2.2; omega) h
          · exact Or.inl ⟨hz, Or.inr (Or.inr ⟨hne, c, by omega, by omega⟩)⟩
    · rcases thr6 t5 with ⟨g, _⟩ | ⟨_, g⟩
      · rw [g] at c; exact absurd c (by decide)
      · exact absurd h3 g
/-- the musts of both -/
theorem must_at {B A : St} (hIK : IK B) (hIM : IM A) (hp : PSs B A) {k : Nat} (hk : (k : Int) < A 25 (A 0 12).toNat) {t : Nat} (ht : t = 51 + 31 * (B 0 9).toNat) : A 26 (6 * (A 0 12) + (k : Int)).toNat = B (t + 13) k ∧ A 27 (6 * (A 0 12) + (k : Int)).toNat = B (t + 14) k ∧ A 28 (6 * (A 0 12) + (k : Int)).toNat = B (t + 15) k := by
  have r12 : (0 : Int) ≤ A 0 12 := (hIM 0 12).1
  have ix : (6 * (A 0 12) + (k : Int)).toNat = 6 * (A 0 12).toNat + k := by omega
  obtain ⟨_, hc, _, _, _, _, _, _, hm, _⟩ := hp.2
  have c := hc.2.1
  rw [ix, ht]
  exact hm k (by rw [← c]; exact hk)
theorem must_n {B A : St} (hp : PSs B A) {t : Nat} (ht : t = 51 + 31 * (B 0 9).toNat) : A 25 (A 0 12).toNat = B (t + 1) 6 := by
  obtain ⟨_, hc, _⟩ := hp.2
  rw [ht]
  exact hc.2.1
theorem cross_eq {x z1 z2 : Int} {B A : St} (hIK : IK B) (hIM : IM A) (hp : PSs B A) (h1 : r_X11_cross x B z1) (h2 : r_X12_cross x A z2) : z1 = z2 := by
  have key : ∀ (t : Nat) (y : Int), t = 51 + 31 * (B 0 9).toNat → (y = 0 ↔ x = 0) → q_X2_firstCrossing t y B z1 → d_X12_cross_1 x A z2 → z1 = z2 := by
    intro t y ht hy h1 h2
    obtain ⟨n1, h1⟩ := (h1.1 : tr_r_X2_firstCrossing t y B z1)
    obtain ⟨n2, h2⟩ := (h2 : tr_d_X12_cross_1 x A z2)
    have hn := must_n hp ht
    have inner : ∀ (a : Nat) (K1 K2 : Int → Prop), (a : Int) < A 25 (A 0 12).toNat → (K1 ((a : Int) + 1) → K2 ((a : Int) + 1) → z1 = z2) → ∀ (n1 n2 j : Nat), d_X2_firstCrossing_2 K1 t y (a : Int) (B (t + 1) 6) B z1 n1 (j : Int) → d_X12_cross_3 K2 x (a : Int) A z2 n2 (j : Int) → z1 = z2 := by
      intro a K1 K2 ha hk n1
      induction n1 with
      | zero => intro n2 j h _; exact h.elim
      | succ n1 ih =>
        intro n2 j h1 h2
        cases n2 with
        | zero => exact h2.elim
        | succ n2 =>
          obtain ⟨_, h1⟩ := (h1 : tr_d_X2_firstCrossing_2 K1 t y (a : Int) (B (t + 1) 6) B z1 (fun z10 => d_X2_firstCrossing_2 K1 t y (a : Int) (B (t + 1) 6) B z1 n1 z10) j)
          obtain ⟨_, z23, e23, h2⟩ := (h2 : tr_d_X12_cross_3 K2 x (a : Int) A z2 (fun z15 => d_X12_cross_3 K2 x (a : Int) A z2 n2 z15) j)
          rw [hn] at e23
          rcases h1 with ⟨c, h1⟩ | ⟨c, h1⟩
          · rcases h2 with ⟨_, h2⟩ | ⟨c2, _⟩
            · exact hk h1 h2
            · exact absurd (by rw [e23]; exact c) c2
          · rcases h2 with ⟨c2, _⟩ | ⟨_, z25, hc, h2⟩
            · exact absurd (by rw [← e23]; exact c2) c
            · have hj : (j : Int) < A 25 (A 0 12).toNat := by rw [hn]; omega
              have m1 := must_at hIK hIM hp ha ht
              have m2 := must_at hIK hIM hp hj ht
              have cM := crs_M hc
              rw [m1.1, m1.2.1, m1.2.2, m2.1, m2.2.1, m2.2.2] at cM
              rcases h1 with ⟨c3, h1⟩ | ⟨c3, z21, ha2, h1⟩
              · rcases h2 with ⟨_, h2⟩ | ⟨c4, _⟩
                · exact ih n2 (j + 1) (h1 : tr_d_X2_firstCrossing_3 _ (j : Int) z1) h2
                · rcases cM with ⟨_, g⟩ | ⟨g, _⟩
                  · unfold cxP at g
                    rw [show j = a by omega] at g
                    omega
                  · exact absurd g c4
              · have cK := crs_K (ta := t) ⟨by omega, by rw [← hn]; exact ha⟩ ⟨by omega, by omega⟩ c3 ha2
                rw [Int.toNat_natCast, Int.toNat_natCast] at cK
                rcases h1 with ⟨c4, h1⟩ | ⟨c4, h1⟩
                · rcases h2 with ⟨_, h2⟩ | ⟨c5, _⟩
                  · exact ih n2 (j + 1) (h1 : tr_d_X2_firstCrossing_3 _ (j : Int) z1) h2
                  · rcases cM with ⟨_, g⟩ | ⟨g, _⟩
                    · rcases cK with ⟨g2, _⟩ | ⟨_, g2⟩
                      · rw [g2] at c4; exact absurd c4 (by decide)
                      · exact absurd g g2
                    · exact absurd g c5
                · rcases h2 with ⟨c5, _⟩ | ⟨_, h2⟩
                  · rcases cM with ⟨g, _⟩ | ⟨_, g⟩
                    · rw [g] at c5; exact absurd c5 (by decide)
                    · rcases cK with ⟨_, g2⟩ | ⟨g2, _⟩
                      · exact absurd g2 g
                      · exact absurd g2 c4
                  · rcases h1 with ⟨c6, hz⟩ | ⟨c6, hz⟩
                    · rcases h2 with ⟨c7, _⟩ | ⟨_, hz2⟩
                      · exact absurd (hy.mp c6) c7
                      · rw [hz, hz2]
                    · rcases h2 with ⟨_, hz2⟩ | ⟨c7, _⟩
                      · rw [hz, hz2]
                      · exact absurd (hy.mpr c7) c6
    have outer : ∀ (n1 n2 a : Nat), d_X2_firstCrossing_1 t y B z1 n1 (a : Int) → d_X12_cross_2 x A z2 n2 (a : Int) → z1 = z2 := by
      intro n1
      induction n1 with
      | zero => intro n2 a h _; exact h.elim
      | succ n1 ih =>
        intro n2 a h1 h2
        cases n2 with
        | zero => exact h2.elim
        | succ n2 =>
          obtain ⟨_, z8, e8, h1⟩ := (h1 : tr_d_X2_firstCrossing_1 t y B z1 (fun z1' => d_X2_firstCrossing_1 t y B z1 n1 z1') a)
          obtain ⟨_, z13, e13, h2⟩ := (h2 : tr_d_X12_cross_2 x A z2 (fun z5 => d_X12_cross_2 x A z2 n2 z5) a)
          have e8 : z8 = B (t + 1) 6 := e8
          rw [hn] at e13
          rcases h1 with ⟨c, hz⟩ | ⟨c, m1, h1⟩
          · rcases h2 with ⟨_, hz2⟩ | ⟨c2, _⟩
            · rw [hz, hz2]
            · exact absurd (by rw [e13, ← e8]; exact c) c2
          · rcases h2 with ⟨c2, _⟩ | ⟨_, m2, h2⟩
            · exact absurd (by rw [e8, ← e13]; exact c2) c
            · rw [e8] at h1
              exact inner a _ _ (by rw [hn, ← e8]; omega) (fun k1 k2 => ih n2 (a + 1) k1 k2) m1 m2 0 h1 h2
    exact outer n1 n2 0 h1 h2
  have kd : (x = 0 ∨ x = 1) → d_X11_cross_1 x B z1 → d_X12_cross_1 x A z2 → z1 = z2 := by
    intro hx h1 h2
    obtain ⟨t, ht, h1⟩ := (h1 : tr_d_X11_cross_1 x B z1)
    rcases h1 with ⟨c, z8, hq, hz⟩ | ⟨c, z8, hq, hz⟩
    · rw [← hz] at hq
      exact key t 0 ht ⟨fun _ => by omega, fun _ => rfl⟩ hq h2
    · rw [← hz] at hq
      exact key t 1 ht ⟨fun g => absurd g (by decide), fun g => by omega⟩ hq h2
  rcases (h1 : tr_r_X11_cross x B z1) with ⟨c, h1⟩ | ⟨c, h1⟩
  · rcases (h2 : tr_r_X12_cross x A z2) with ⟨_, h2⟩ | ⟨c2, _⟩
    · exact kd (Or.inl c) h1 h2
    · exact absurd c c2
  · rcases (h2 : tr_r_X12_cross x A z2) with ⟨c2, _⟩ | ⟨_, h2⟩
    · exact absurd c2 c
    · rcases h1 with ⟨c3, hz⟩ | ⟨c3, h1⟩
      · rcases h2 with ⟨c4, _⟩ | ⟨_, hz2⟩
        · exact absurd c4 c3
        · rw [hz, hz2]
      · rcases h2 with ⟨_, h2⟩ | ⟨c4, _⟩
        · exact kd (Or.inr c3) h1 h2
        · exact absurd c3 c4
