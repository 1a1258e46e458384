/-! The reference's tests: operands. -/
theorem st0_k {A : St} {j k : Nat} {x : Int} (hj : 9 ≤ j) (h47 : j ≠ 47) (hk : k < 9 ∨ k = 47) : stA A 0 j x 0 k = A 0 k := by
  rw [stA_same, up_ne _ _ (by omega)]
theorem MO.fr {f : Nat → Int} {N b e : Nat} {A v : St} (h : MO f N b e A) (h1 : v 1 = A 1) (h0 : ∀ k, k < 9 ∨ k = 47 → v 0 k = A 0 k) : MO f N b e v := by
  rcases h with ⟨h, g⟩ | ⟨h, g⟩
  · exact Or.inl ⟨h, by rw [h0 8 (Or.inl (by decide))]; exact g⟩
  · exact Or.inr ⟨by rw [h0 8 (Or.inl (by decide))]; exact h, g.fr h1 h0⟩
/-- behind an opening bracket -/
def OP (f : Nat → Int) (N b e D : Nat) (o x k : Int) (A v : St) : Prop := MO f N b e v ∧ v 0 53 = (D : Int) + 1 ∧ v 0 54 = o + 1 ∧ v 0 57 = x ∧ v 35 = up (A 35) D k ∧ v 36 = up (A 36) D 0 ∧ v 37 = up (A 37) D 1
theorem O_opens {f : Nat → Int} {N b p D : Nat} {A v : St} {k : Int} (h : MS f N b p A) (hD : A 0 53 = (D : Int)) (hq : q_X12_opens k A v) : (A 0 54 = 8 ∧ 1 ≤ v 0 8) ∨ (¬ A 0 54 = 8 ∧ OP f N b (tEnd f N p) D (A 0 54) (A 0 57) k A v) := by
  rcases (hq.1 : tr_r_X12_opens k A v) with ⟨c, h2⟩ | ⟨c, A3, hb, h2⟩
  · obtain ⟨_, h2⟩ := (h2 : tr_d_X12_opens_1 k A v A)
    rcases h2 with ⟨_, A11, e11, A12, ha, A15, hp, hv⟩ | ⟨c2, _⟩
    · refine Or.inr ⟨c, ?_⟩
      have hG : MG f N b (tEnd f N p) A11 := by
        rw [e11]
        refine h.go.fr rfl (fun k hk => ?_)
        rcases hk with rfl | rfl | rfl | rfl <;> rfl
      obtain ⟨g1, g2, g3, g4, g5⟩ := leafA hG ha
      have d12 : A12 0 53 = (D : Int) := by rw [g3, e11]; exact hD
      have ed : (A12 0 53).toNat = D := by rw [d12]; exact Int.toNat_natCast D
      obtain ⟨A1, e1, e2⟩ := (hp.1 : tr_r_X12_pushes k A12 A15)
      rw [ed, d12] at e1
      rw [hv, e2, e1]
      refine ⟨g1.fr rfl (fun k hk => st0_k (by decide) (by decide) hk), rfl, ?_, ?_, ?_, ?_, ?_⟩
      · show A12 0 54 = A 0 54 + 1
        rw [g4, e11]; rfl
      · show A12 0 57 = A 0 57
        rw [g5, e11]; rfl
      · show up (A12 35) D k = up (A 35) D k
        rw [g2 35 (by decide), e11]; rfl
      · show up (A12 36) D 0 = up (A 36) D 0
        rw [g2 36 (by decide), e11]; rfl
      · show up (A12 37) D 1 = up (A 37) D 1
        rw [g2 37 (by decide), e11]; rfl
    · exact absurd (Int.le_of_eq h.ns) c2
  · have f1 := hb.2.2.2
    obtain ⟨_, h2⟩ := (h2 : tr_d_X12_opens_1 k A v A3)
    rcases h2 with ⟨c2, _⟩ | ⟨_, hv⟩
    · omega
    · exact Or.inl ⟨c, by rw [hv]; exact f1⟩
theorem X_opens {A v : St} {k : Int} (h : 1 ≤ A 0 8) (hq : q_X12_opens k A v) : 1 ≤ v 0 8 := by
  have d1 : ∀ A3 : St, 1 ≤ A3 0 8 → d_X12_opens_1 k A v A3 → 1 ≤ v 0 8 := by
    intro A3 f1 h2
    obtain ⟨_, h2⟩ := (h2 : tr_d_X12_opens_1 k A v A3)
    rcases h2 with ⟨c2, _⟩ | ⟨_, hv⟩
    · omega
    · rw [hv]; exact f1
  rcases (hq.1 : tr_r_X12_opens k A v) with ⟨_, h2⟩ | ⟨_, A3, hb, h2⟩
  · exact d1 A h h2
  · exact d1 A3 hb.2.2.2 h2
abbrev tlf (f : Nat → Int) (N p : Nat) : Prop := tKind f N p = 2 ∨ tow f N p 20 ∨ tow f N p 21 ∨ tow f N p 22 ∨ tow f N p 23
/-- behind min or max -/
def PRo (f : Nat → Int) (N b p D : Nat) (o x : Int) (A v : St) : Prop := (1 ≤ v 0 8 ∧ (tKind f N (tEnd f N p) = 4 ∨ ¬ tsg f N (tEnd f N p) 40 ∨ o = 8 ∨ (tsg f N (tEnd f N p) 40 ∧ tKind f N (tEnd f N (tEnd f N p)) = 4))) ∨ (tsg f N (tEnd f N p) 40 ∧ ¬ o = 8 ∧ v 0 8 = 0 ∧ OP f N b (tEnd f N (tEnd f N p)) D o x 3 A v)
theorem O_5 {f : Nat → Int} {N b p D : Nat} {A B v : St} {z : Int} (h : MS f N b p B) (hA : A 0 3 = B 0 3) (hA4 : A 0 4 = B 0 4) (hD : B 0 53 = (D : Int)) (hq : d_X12_operand_5 A B z v) : (tlf f N p ∧ z = 1 ∧ AF f N b (tEnd f N p) (B 0 57) B v) ∨ (¬ tlf f N p ∧ tsg f N p 40 ∧ z = 0 ∧ q_X12_opens 2 B v) ∨ (¬ tlf f N p ∧ ¬ tsg f N p 40 ∧ (tow f N p 24 ∨ tow f N p 25) ∧ z = 0 ∧ PRo f N b p D (B 0 54) (B 0 57) B v) ∨ (¬ tlf f N p ∧ ¬ tsg f N p 40 ∧ ¬ (tow f N p 24 ∨ tow f N p 25) ∧ z = 1 ∧ 1 ≤ v 0 8) := by
  have nt : ∀ {k : Nat}, tsg f N p 40 → ¬ tow f N p k := fun g1 g2 => by have := g1.1; have := g2.1; omega
  have nl : tsg f N p 40 → ¬ tlf f N p := by
    intro g1 g2
    rcases g2 with g | g | g | g | g
    · have := g1.1; omega
    · exact nt g1 g
    · exact nt g1 g
    · exact nt g1 g
    · exact nt g1 g
  have d7f : ∀ (x : Int) (A162 : St), 1 ≤ A162 0 8 → d_X12_operand_7 x A z v A162 → z = 1 ∧ 1 ≤ v 0 8 := by
    intro x A162 g h2
    obtain ⟨_, h2⟩ := (h2 : tr_d_X12_operand_7 x A z v A162)
    rcases h2 with ⟨c, _⟩ | ⟨_, hz, hv⟩
    · omega
    · exact ⟨hz, by rw [hv]; exact g⟩
  have d6 : ∀ x : Int, ¬ x = -1 → d_X12_operand_6 A B z v x → z = 1 ∧ AF f N b (tEnd f N p) (B 0 57) B v := by
    intro x hx h2
    obtain ⟨_, h2⟩ := (h2 : tr_d_X12_operand_6 A B z v x)
    rcases h2 with ⟨_, h2⟩ | ⟨c, _⟩
    · obtain ⟨_, h2⟩ := (h2 : tr_d_X12_operand_7 x A z v B)
      rcases h2 with ⟨_, A166, had, A170, ha, hz, hv⟩ | ⟨c, _⟩
      · have s := q_add_sb had
        rw [hv]
        exact ⟨hz, (AF.mk0 (h.go.sb s) ha (s.k 57 rfl)).cg s⟩
      · exact absurd (Int.le_of_eq h.ns) c
    · exact absurd c hx
  have d6n : d_X12_operand_6 A B z v (-1) → z = 1 ∧ 1 ≤ v 0 8 := by
    intro h2
    obtain ⟨_, h2⟩ := (h2 : tr_d_X12_operand_6 A B z v (-1))
    rcases h2 with ⟨c, _⟩ | ⟨_, A158, hb, h2⟩
    · exact absurd rfl c
    · exact d7f _ A158 hb.2.2.2 h2
  have d8 : d_X12_operand_8 B z v → z = 0 ∧ PRo f N b p D (B 0 54) (B 0 57) B v := by
    intro h2
    have d9 : ∀ x : Int, d_X12_operand_9 B z v x → z = 0 ∧ PRo f N b p D (B 0 54) (B 0 57) B v := by
      intro x h2
      obtain ⟨_, A204, ha, z215, is, h2⟩ := (h2 : tr_d_X12_operand_9 B z v x)
      obtain ⟨g1, g2, g3, g4, g5⟩ := leafA h.go ha
      have d10f : ∀ A224 : St, 1 ≤ A224 0 8 → d_X12_operand_10 x z v A224 → z = 0 ∧ 1 ≤ v 0 8 := by
        intro A224 f1 h2
        obtain ⟨_, A227, ho, h2⟩ := (h2 : tr_d_X12_operand_10 x z v A224)
        have f2 := X_opens f1 ho
        rcases h2 with ⟨_, hz, hv⟩ | ⟨c, _⟩
        · exact ⟨hz, by rw [hv]; exact f2⟩
        · omega
      rcases g1 with ⟨t4, f1⟩ | ⟨_, s⟩
      · have g : z = 0 ∧ 1 ≤ v 0 8 := by
          rcases h2 with ⟨_, h2⟩ | ⟨_, A220, hb, h2⟩
          · exact d10f A204 f1 h2
          · exact d10f A220 hb.2.2.2 h2
        exact ⟨g.1, Or.inl ⟨g.2, Or.inl t4⟩⟩
      · have is := s.isS is
        rcases h2 with ⟨c, h2⟩ | ⟨c, A220, hb, h2⟩
        · rcases is with ⟨_, g⟩ | ⟨g, _⟩
          · obtain ⟨_, A227, ho, h2⟩ := (h2 : tr_d_X12_operand_10 x z v A204)
            have oo := O_opens (D := D) s (g3.trans hD) ho
            rw [g4, g5] at oo
            rcases oo with ⟨o8, f2⟩ | ⟨o8, op⟩
            · rcases h2 with ⟨_, hz, hv⟩ | ⟨c, _⟩
              · exact ⟨hz, Or.inl ⟨by rw [hv]; exact f2, Or.inr (Or.inr (Or.inl o8))⟩⟩
              · omega
            · obtain ⟨a1, a2, a3, a4, a5, a6, a7⟩ := op
              rcases h2 with ⟨c2, hz, hv⟩ | ⟨c2, A231, e, hz, hv⟩
              · rcases a1 with ⟨t4, f3⟩ | ⟨f3, _⟩
                · exact ⟨hz, Or.inl ⟨by rw [hv]; exact f3, Or.inr (Or.inr (Or.inr ⟨g, t4⟩))⟩⟩
                · exact absurd f3 c2
              · refine ⟨hz, Or.inr ⟨g, o8, by rw [hv, e]; exact c2, ?_⟩⟩
                rw [hv, e]
                refine ⟨a1.fr rfl (fun _ _ => rfl), a2, a3, a4, ?_, ?_, ?_⟩
                · show A227 35 = _
                  rw [a5, g2 35 (by decide)]
                · show A227 36 = _
                  rw [a6, g2 36 (by decide)]
                · show A227 37 = _
                  rw [a7, g2 37 (by decide)]
          · exact absurd g c
        · rcases is with ⟨g, _⟩ | ⟨_, g⟩
          · exact absurd (g.symm.trans c) (by decide)
          · have k := d10f A220 hb.2.2.2 h2
            exact ⟨k.1, Or.inl ⟨k.2, Or.inr (Or.inl g)⟩⟩
    obtain ⟨z195, _, h2⟩ := (h2 : tr_d_X12_operand_8 B z v)
    rcases h2 with ⟨_, h2⟩ | ⟨_, h2⟩
    · exact d9 _ h2
    · exact d9 _ h2
  have inj : ∀ i j : Fin 26, own5 i.val = own5 j.val → i = j := by decide +kernel
  have two : ∀ {i j : Nat}, i < 26 → j < 26 → i ≠ j → tow f N p i → ¬ tow f N p j := by
    intro i j hi hj ne g1 g2
    have := inj ⟨i, hi⟩ ⟨j, hj⟩ (g1.2.symm.trans g2.2)
    exact ne (by simpa using this)
  have mm : ∀ {i : Nat}, i < 26 → 24 ≤ i → tow f N p i → ¬ tlf f N p := by
    intro i hi hi2 g1 g2
    rcases g2 with g | g | g | g | g
    · have := g1.1; omega
    · exact two hi (by decide) (by omega) g1 g
    · exact two hi (by decide) (by omega) g1 g
    · exact two hi (by decide) (by omega) g1 g
    · exact two hi (by decide) (by omega) g1 g
  obtain ⟨z120, i40, h2⟩ := (hq : tr_d_X12_operand_5 A B z v)
  have i40 := h.isS i40
  rcases h2 with ⟨c1, z124, im, h2⟩ | ⟨c1, A253, ho, hz, hv⟩
  · have n40 : ¬ tsg f N p 40 := by
      rcases i40 with ⟨g, _⟩ | ⟨_, g⟩
      · exact absurd (g.symm.trans c1) (by decide)
      · exact g
    have im := h.isW (WR_own24 : WR 7170414 14637) im
    rcases h2 with ⟨c2, h2⟩ | ⟨c2, z129, ix, h2⟩
    · rcases im with ⟨_, g⟩ | ⟨g, _⟩
      · exact Or.inr (Or.inr (Or.inl ⟨mm (by decide) (by decide) (show tow f N p 24 from g), n40, Or.inl g, d8 h2⟩))
      · exact absurd g c2
    · have nmin : ¬ tow f N p 24 := by
        rcases im with ⟨g, _⟩ | ⟨_, g⟩
        · exact absurd (g.symm.trans c2) (by decide)
        · exact g
      have ix := h.isW (WR_own25 : WR 7168376 24621) ix
      rcases h2 with ⟨c3, h2⟩ | ⟨c3, h2⟩
      · have nmax : ¬ tow f N p 25 := by
          rcases ix with ⟨g, _⟩ | ⟨_, g⟩
          · exact absurd (g.symm.trans c3) (by decide)
          · exact g
        rcases h2 with ⟨c4, z135, i20, h2⟩ | ⟨c4, h2⟩
        · have n2 : ¬ tKind f N p = 2 := fun g => c4 (by rw [hA, h.sg]; exact g)
          have i20 := h.isW (WR_own20 : WR 7825519 15639) i20
          rcases h2 with ⟨c5, z139, i21, h2⟩ | ⟨c5, h2⟩
          · have n20 : ¬ tow f N p 20 := by
              rcases i20 with ⟨g, _⟩ | ⟨_, g⟩
              · exact absurd (g.symm.trans c5) (by decide)
              · exact g
            have i21 := h.isW (WR_own21 : WR 1936748404 671251) i21
            rcases h2 with ⟨c6, z143, i22, h2⟩ | ⟨c6, h2⟩
            · have n21 : ¬ tow f N p 21 := by
                rcases i21 with ⟨g, _⟩ | ⟨_, g⟩
                · exact absurd (g.symm.trans c6) (by decide)
                · exact g
              have i22 := h.isW (WR_own22 : WR 1801812339 648363) i22
              rcases h2 with ⟨c7, z147, i23, h2⟩ | ⟨c7, h2⟩
              · have n22 : ¬ tow f N p 22 := by
                  rcases i22 with ⟨g, _⟩ | ⟨_, g⟩
                  · exact absurd (g.symm.trans c7) (by decide)
                  · exact g
                have i23 := h.isW (WR_own23 : WR 109317377451364 140098947) i23
                rcases h2 with ⟨c8, h2⟩ | ⟨c8, h2⟩
                · have n23 : ¬ tow f N p 23 := by
                    rcases i23 with ⟨g, _⟩ | ⟨_, g⟩
                    · exact absurd (g.symm.trans c8) (by decide)
                    · exact g
                  have nlf : ¬ tlf f N p := by
                    rintro (g | g | g | g | g)
                    · exact n2 g
                    · exact n20 g
                    · exact n21 g
                    · exact n22 g
                    · exact n23 g
                  have nmm : ¬ (tow f N p 24 ∨ tow f N p 25) := by
                    rintro (g | g)
                    · exact nmin g
                    · exact nmax g
                  exact Or.inr (Or.inr (Or.inr ⟨nlf, n40, nmm, d6n h2⟩))
                · rcases i23 with ⟨_, g⟩ | ⟨g, _⟩
                  · exact Or.inl ⟨Or.inr (Or.inr (Or.inr (Or.inr g))), d6 _ (by decide) h2⟩
                  · exact absurd g c8
              · rcases i22 with ⟨_, g⟩ | ⟨g, _⟩
                · exact Or.inl ⟨Or.inr (Or.inr (Or.inr (Or.inl g))), d6 _ (by decide) h2⟩
                · exact absurd g c7
            · rcases i21 with ⟨_, g⟩ | ⟨g, _⟩
              · exact Or.inl ⟨Or.inr (Or.inr (Or.inl g)), d6 _ (by decide) h2⟩
              · exact absurd g c6
          · rcases i20 with ⟨_, g⟩ | ⟨g, _⟩
            · exact Or.inl ⟨Or.inr (Or.inl g), d6 _ (by decide) h2⟩
            · exact absurd g c5
        · have t2 : tKind f N p = 2 := by rw [← h.sg, ← hA]; exact c4
          exact Or.inl ⟨Or.inl t2, d6 _ (by decide) h2⟩
      · rcases ix with ⟨_, g⟩ | ⟨g, _⟩
        · exact Or.inr (Or.inr (Or.inl ⟨mm (by decide) (by decide) (show tow f N p 25 from g), n40, Or.inr g, d8 h2⟩))
        · exact absurd g c3
  · rcases i40 with ⟨_, g⟩ | ⟨g, _⟩
    · exact Or.inr (Or.inl ⟨nl g, g, hz, by rw [hv]; exact ho⟩)
    · exact absurd g c1
/-- a test's fact begins -/
abbrev fst1 (D : Nat) (A : St) : Prop := (A 35 (D - 1) = 1 ∨ A 35 (D - 1) = 5) ∧ ¬ A 37 (D - 1) = 0
theorem O_base {f : Nat → Int} {N b p D : Nat} {A v : St} {z : Int} (h : MS f N b p A) (hD : A 0 53 = (D : Int)) (h1 : 1 ≤ D) (hq : q_X12_operand A z v) : (fst1 D A ∧ tow f N p 18 ∧ z = 0 ∧ AF f N b (tEnd f N p) (A 0 57) A v) ∨ (fst1 D A ∧ tsg f N p 91 ∧ z = 0 ∧ q_X12_opens 5 (stA A 37 (D - 1) 0) v) ∨ (fst1 D A ∧ tow f N p 19 ∧ z = 1 ∧ AF f N b (tEnd f N p) (A 0 57) (stA (stA A 37 (D - 1) 0) 36 (D - 1) 2) v) ∨ ((fst1 D A → ¬ tow f N p 18 ∧ ¬ tsg f N p 91 ∧ ¬ tow f N p 19) ∧ d_X12_operand_5 A (stA A 37 (D - 1) 0) z v) := by
  have ix : (A 0 53 - 1).toNat = D - 1 := by omega
  have s49 : MS f N b p (stA A 37 (D - 1) 0) := h.fr rfl (fun _ _ => rfl)
  obtain ⟨z1, hz1, z2, ht, h2⟩ := (hq.1 : tr_r_X12_operand A z v)
  rw [ix] at hz1
  have ht := isTest_iff ht
  rw [hz1] at ht
  have d3n : ¬ fst1 D A → d_X12_operand_3 0 A z v → d_X12_operand_5 A (stA A 37 (D - 1) 0) z v := by
    intro hn h2
    obtain ⟨A49, e, h2⟩ := (h2 : tr_d_X12_operand_3 0 A z v)
    rw [ix] at e
    rw [← e]
    rcases h2 with ⟨_, h2⟩ | ⟨c, _⟩
    · rcases (h2 : tr_d_X12_operand_4 0 A A49 z v) with ⟨_, h2⟩ | ⟨c, _⟩
      · exact h2
      · exact absurd rfl c
    · exact absurd rfl c
  have d2n : ¬ fst1 D A → d_X12_operand_2 A z v 0 → d_X12_operand_5 A (stA A 37 (D - 1) 0) z v := by
    intro hn h2
    obtain ⟨_, h2⟩ := (h2 : tr_d_X12_operand_2 A z v 0)
    rcases h2 with ⟨_, h2⟩ | ⟨c, _⟩
    · exact d3n hn h2
    · exact absurd rfl c
  rcases h2 with ⟨c, h2⟩ | ⟨c, z8, hz8, h2⟩
  · have nf : ¬ fst1 D A := by
      intro g
      rcases ht with ⟨g2, _⟩ | ⟨_, g2⟩
      · exact absurd (g2.symm.trans c) (by decide)
      · exact g2 g.1
    exact Or.inr (Or.inr (Or.inr ⟨fun g => absurd g nf, d2n nf h2⟩))
  · rw [ix] at hz8
    rcases h2 with ⟨c2, h2⟩ | ⟨c2, h2⟩
    · have nf : ¬ fst1 D A := fun g => g.2 (hz8.symm.trans c2)
      exact Or.inr (Or.inr (Or.inr ⟨fun g => absurd g nf, d2n nf h2⟩))
    · have yf : fst1 D A := by
        rcases ht with ⟨_, g2⟩ | ⟨g2, _⟩
        · exact ⟨g2, fun g => c2 (hz8.trans g)⟩
        · exact absurd g2 c
      obtain ⟨_, h2⟩ := (h2 : tr_d_X12_operand_2 A z v 1)
      rcases h2 with ⟨c3, _⟩ | ⟨_, z18, i18, h2⟩
      · exact absurd c3 (by decide)
      · have i18 := h.isW (WR_own18 : WR 7237492 20974) i18
        rcases h2 with ⟨c4, h2⟩ | ⟨c4, A22, hh, A25, ha, hz, hv⟩
        · have n18 : ¬ tow f N p 18 := by
            rcases i18 with ⟨g, _⟩ | ⟨_, g⟩
            · exact absurd (g.symm.trans c4) (by decide)
            · exact g
          obtain ⟨A49, e, h2⟩ := (h2 : tr_d_X12_operand_3 1 A z v)
          rw [ix] at e
          rw [← e] at s49 ⊢
          rcases h2 with ⟨c5, _⟩ | ⟨_, z59, i91, h2⟩
          · exact absurd c5 (by decide)
          · have i91 := s49.isS i91
            rcases h2 with ⟨c6, h2⟩ | ⟨c6, A63, ho, hz, hv⟩
            · have n91 : ¬ tsg f N p 91 := by
                rcases i91 with ⟨g, _⟩ | ⟨_, g⟩
                · exact absurd (g.symm.trans c6) (by decide)
                · exact g
              rcases (h2 : tr_d_X12_operand_4 1 A A49 z v) with ⟨c7, _⟩ | ⟨_, z76, i19, h2⟩
              · exact absurd c7 (by decide)
              · have i19 := s49.isW (WR_own19 : WR 6384748 12673) i19
                rcases h2 with ⟨c8, h2⟩ | ⟨c8, A80, had, A84, e84, A85, ha, hz, hv⟩
                · have n19 : ¬ tow f N p 19 := by
                    rcases i19 with ⟨g, _⟩ | ⟨_, g⟩
                    · exact absurd (g.symm.trans c8) (by decide)
                    · exact g
                  exact Or.inr (Or.inr (Or.inr ⟨fun _ => ⟨n18, n91, n19⟩, h2⟩))
                · rcases i19 with ⟨_, g⟩ | ⟨g, _⟩
                  · refine Or.inr (Or.inr (Or.inl ⟨yf, g, hz, ?_⟩))
                    rw [ix] at e84
                    have s := q_add_sb had
                    have hG : MG f N b (tEnd f N p) A84 := by
                      rw [e84]
                      exact (s49.go.sb s).fr rfl (fun _ _ => rfl)
                    obtain ⟨a1, a2, a3, a4, a5, a6, a7⟩ := AF.mk0 hG ha rfl
                    rw [hv]
                    refine ⟨a1, ?_, ?_, ?_, ?_, ?_, ?_⟩
                    · rw [a2, e84]; exact s.k 53 rfl
                    · rw [a3, e84]; exact s.k 54 rfl
                    · rw [a4, e84]
                      show A80 0 57 = A 0 57
                      rw [s.k 57 rfl, e]; rfl
                    · rw [a5, e84]; exact s.r 35 (by decide) rfl
                    · rw [a6, e84, stA_same, stA_same, s.r 36 (by decide) rfl]
                    · rw [a7, e84]; exact s.r 37 (by decide) rfl
                  · exact absurd g c8
            · rcases i91 with ⟨_, g⟩ | ⟨g, _⟩
              · exact Or.inr (Or.inl ⟨yf, g, hz, by rw [hv]; exact ho⟩)
              · exact absurd g c6
        · rcases i18 with ⟨_, g⟩ | ⟨g, _⟩
          · refine Or.inl ⟨yf, g, hz, ?_⟩
            have s := q_holds_sb hh
            rw [hv]
            exact (AF.mk0 (h.go.sb s) ha (s.k 57 rfl)).cg s
          · exact absurd g c4
