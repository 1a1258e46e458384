/-! The reference's tests: operands. -/
theorem st0_k {A : St} {j k : Nat} {x : Int} (hj : 9 ≤ j) (h47 : j ≠ 47) (hk : k < 9 ∨ k = 47) : stA A 0 j x 0 k = A 0 k := by
  rw [stA_same, up_ne _ _ (by omega)]
theorem MO.fr {f : Nat → Int} {N b e : Nat} {A v : St} (h : MO f N b e A) (h1 : v 1 = A 1) (h0 : ∀ k, k < 9 ∨ k = 47 → v 0 k = A 0 k) : MO f N b e v := by
  rcases h with ⟨h, g⟩ | ⟨h, g⟩
  · exact Or.inl ⟨h, by rw [h0 8 (Or.inl (by decide))]; exact g⟩
  · exact Or.inr ⟨by rw [h0 8 (Or.inl (by decide))]; exact h, g.fr h1 h0⟩
/-- behind an opening bracket -/
def OP (f : Nat → Int) (N b e D : Nat) (o x k : Int) (A v : St) : Prop := MO f N b e v ∧ v 0 53 = (D : Int) + 1 ∧ v 0 54 = o + 1 ∧ v 0 57 = x ∧ v 35 = up (A 35) D k ∧ v 36 = up (A 36) D 0 ∧ v 37 = up (A 37) D 1
theorem O_opens {f : Nat → Int} {N b p D : Nat} {A v : St} {k : Int} (h : MS f N b p A) (hD : A 0 53 = (D : Int)) (hq : q_X12_opens k A v) : (A 0 54 = 8 ∧ 1 ≤ v 0 8) ∨ (¬ A 0 54 = 8 ∧ OP f N b (tEnd f N p) D (A 0 54) (A 0 57) k A v) := by
  rcases (hq.1 : tr_r_X12_opens k A v) with ⟨c, h2⟩ | ⟨c, A3, hb, h2⟩
  · obtain ⟨_, h2⟩ := (h2 : tr_d_X12_opens_1 k A v A)
    rcases h2 with ⟨_, A11, e11, A12, ha, A15, hp, hv⟩ | ⟨c2, _⟩
    · refine Or.inr ⟨c, ?_⟩
      have hG : MG f N b (tEnd f N p) A11 := by
        rw [e11]
        refine h.go.fr rfl (fun k hk => ?_)
        rcases hk with rfl | rfl | rfl | rfl <;> rfl
      obtain ⟨g1, g2, g3, g4, g5⟩ := leafA hG ha
      have d12 : A12 0 53 = (D : Int) := by rw [g3, e11]; exact hD
      have ed : (A12 0 53).toNat = D := by rw [d12]; exact Int.toNat_natCast D
      obtain ⟨A1, e1, e2⟩ := (hp.1 : tr_r_X12_pushes k A12 A15)
      rw [ed, d12] at e1
      rw [hv, e2, e1]
      refine ⟨g1.fr rfl (fun k hk => st0_k (by decide) (by decide) hk), rfl, ?_, ?_, ?_, ?_, ?_⟩
      · show A12 0 54 = A 0 54 + 1
        rw [g4, e11]; rfl
      · show A12 0 57 = A 0 57
        rw [g5, e11]; rfl
      · show up (A12 35) D k = up (A 35) D k
        rw [g2 35 (by decide), e11]; rfl
      · show up (A12 36) D 0 = up (A 36) D 0
        rw [g2 36 (by decide), e11]; rfl
      · show up (A12 37) D 1 = up (A 37) D 1
        rw [g2 37 (by decide), e11]; rfl
    · exact absurd (Int.le_of_eq h.ns) c2
  · have f1 := hb.2.2.2
    obtain ⟨_, h2⟩ := (h2 : tr_d_X12_opens_1 k A v A3)
    rcases h2 with ⟨c2, _⟩ | ⟨_, hv⟩
    · omega
    · exact Or.inl ⟨c, by rw [hv]; exact f1⟩
theorem X_opens {A v : St} {k : Int} (h : 1 ≤ A 0 8) (hq : q_X12_opens k A v) : 1 ≤ v 0 8 := by
  have d1 : ∀ A3 : St, 1 ≤ A3 0 8 → d_X12_opens_1 k A v A3 → 1 ≤ v 0 8 := by
    intro A3 f1 h2
    obtain ⟨_, h2⟩ := (h2 : tr_d_X12_opens_1 k A v A3)
    rcases h2 with ⟨c2, _⟩ | ⟨_, hv⟩
    · omega
    · rw [hv]; exact f1
  rcases (hq.1 : tr_r_X12_opens k A v) with ⟨_, h2⟩ | ⟨_, A3, hb, h2⟩
  · exact d1 A h h2
  · exact d1 A3 hb.2.2.2 h2
abbrev tlf (f : Nat → Int) (N p : Nat) : Prop := tKind f N p = 2 ∨ tow f N p 20 ∨ tow f N p 21 ∨ tow f N p 22 ∨ tow f N p 23
/-- behind min or max -/
def PRo (f : Nat → Int) (N b p D : Nat) (o x : Int) (A v : St) : Prop := (1 ≤ v 0 8 ∧ (tKind f N (tEnd f N p) = 4 ∨ ¬ tsg f N (tEnd f N p) 40 ∨ o = 8 ∨ (tsg f N (tEnd f N p) 40 ∧ tKind f N (tEnd f N (tEnd f N p)) = 4))) ∨ (tsg f N (tEnd f N p) 40 ∧ ¬ o = 8 ∧ v 0 8 = 0 ∧ OP f N b (tEnd f N (tEnd f N p)) D o x 3 A v)
theorem O_5 {f : Nat → Int} {N b p D : Nat} {A B v : St} {z : Int} (h : MS f N b p B) (hA : A 0 3 = B 0 3) (hA4 : A 0 4 = B 0 4) (hD : B 0 53 = (D : Int)) (hq : d_X12_operand_5 A B z v) : (tlf f N p ∧ z = 1 ∧ AF f N b (tEnd f N p) (B 0 57) B v) ∨ (¬ tlf f N p ∧ tsg f N p 40 ∧ z = 0 ∧ q_X12_opens 2 B v) ∨ (¬ tlf f N p ∧ ¬ tsg f N p 40 ∧ (tow f N p 24 ∨ tow f N p 25) ∧ z = 0 ∧ PRo f N b p D (B 0 54) (B 0 57) B v) ∨ (¬ tlf f N p ∧ ¬ tsg f N p 40 ∧ ¬ (tow f N p 24 ∨ tow f N p 25) ∧ z = 1 ∧ 1 ≤ v 0 8) := by
  have nt : ∀ {k : Nat}, tsg f N p 40 → ¬ tow f N p k := fun g1 g2 => by have := g1.1; have := g2.1; omega
  have nl : tsg f N p 40 → ¬ tlf f N p := by
    intro g1 g2
    rcases g2 with g | g | g | g | g
    · have := g1.1; omega
    · exact nt g1 g
    · exact nt g1 g
    · exact nt g1 g
    · exact nt g1 g
  have d7f : ∀ (x : Int) (A162 : St), 1 ≤ A162 0 8 → d_X12_operand_7 x A z v A162 → z = 1 ∧ 1 ≤ v 0 8 := by
    intro x A162 g h2
    obtain ⟨_, h2⟩ := (h2 : tr_d_X12_operand_7 x A z v A162)
    rcases h2 with ⟨c, _⟩ | ⟨_, hz, hv⟩
    · omega
    · exact ⟨hz, by rw [hv]; exact g⟩
  have d6 : ∀ x : Int, ¬ x = -1 → d_X12_operand_6 A B z v x → z = 1 ∧ AF f N b (tEnd f N p) (B 0 57) B v := by
    intro x hx h2
    obtain ⟨_, h2⟩ := (h2 : tr_d_X12_operand_6 A B z v x)
    rcases h2 with ⟨_, h2⟩ | ⟨c, _⟩
    · obtain ⟨_, h2⟩ := (h2 : tr_d_X12_operand_7 x A z v B)
      rcases h2 with ⟨_, A166, had, A170, ha, hz, hv⟩ | ⟨c, _⟩
      · have s := q_add_sb had
        rw [hv]
        exact ⟨hz, (AF.mk0 (h.go.sb s) ha (s.k 57 rfl)).cg s⟩
      · exact absurd (Int.le_of_eq h.ns) c
    · exact absurd c hx
  have d6n : d_X12_operand_6 A B z v (-1) → z = 1 ∧ 1 ≤ v 0 8 := by
    intro h2
    obtain ⟨_, h2⟩ := (h2 : tr_d_X12_operand_6 A B z v (-1))
    rcases h2 with ⟨c, _⟩ | ⟨_, A158, hb, h2⟩
    · exact absurd rfl c
    · exact d7f _ A158 hb.2.2.2 h2
  have d8 : d_X12_operand_8 B z v → z = 0 ∧ PRo f N b p D (B 0 54) (B 0 57) B v := by
    intro h2
    have d9 : ∀ x : Int, d_X12_operand_9 B z v x → z = 0 ∧ PRo f N b p D (B 0 54) (B 0 57) B v := by
      intro x h2
      obtain ⟨_, A204, ha, z215, is, h2⟩ := (h2 : tr_d_X12_operand_9 B z v x)
      obtain ⟨g1, g2, g3, g4, g5⟩ := leafA h.go ha
      have d10f : ∀ A224 : St, 1 ≤ A224 0 8 → d_X12_operand_10 x z v A224 → z = 0 ∧ 1 ≤ v 0 8 := by
        intro A224 f1 h2
        obtain ⟨_, A227, ho, h2⟩ := (h2 : tr_d_X12_operand_10 x z v A224)
        have f2 := X_opens f1 ho
        rcases h2 with ⟨_, hz, hv⟩ | ⟨c, _⟩
        · exact ⟨hz, by rw [hv]; exact f2⟩
        · omega
      rcases g1 with ⟨t4, f1⟩ | ⟨_, s⟩
      · have g : z = 0 ∧ 1 ≤ v 0 8 := by
          rcases h2 with ⟨_, h2⟩ | ⟨_, A220, hb, h2⟩
          · exact d10f A204 f1 h2
          · exact d10f A220 hb.2.2.2 h2
        exact ⟨g.1, Or.inl ⟨g.2, Or.inl t4⟩⟩
      · have is := s.isS is
        rcases h2 with ⟨c, h2⟩ | ⟨c, A220, hb, h2⟩
        · rcases is with ⟨_, g⟩ | ⟨g, _⟩
          · obtain ⟨_, A227, ho, h2⟩ := (h2 : tr_d_X12_operand_10 x z v A204)
            have oo := O_opens (D := D) s (g3.trans hD) ho
            rw [g4, g5] at oo
            rcases oo with ⟨o8, f2⟩ | ⟨o8, op⟩
            · rcases h2 with ⟨_, hz, hv⟩ | ⟨c, _⟩
              · exact ⟨hz, Or.inl ⟨by rw [hv]; exact f2, Or.inr (Or.inr (Or.inl o8))⟩⟩
              · omega
            · obtain ⟨a1, a2, a3, a4, a5, a6, a7⟩ := op
              rcases h2 with ⟨c2, hz, hv⟩ | ⟨c2, A231, e, hz, hv⟩
              · rcases a1 with ⟨t4, f3⟩ | ⟨f3, _⟩
                · exact ⟨hz, Or.inl ⟨by rw [hv]; exact f3, Or.inr (Or.inr (Or.inr ⟨g, t4⟩))⟩⟩
                · exact absurd f3 c2
              · refine ⟨hz, Or.inr ⟨g, o8, by rw [hv, e]; exact c2, ?_⟩⟩
                rw [hv, e]
                refine ⟨a1.fr rfl (fun _ _ => rfl), a2, a3, a4, ?_, ?_, ?_⟩
                · show A227 35 = _
                  rw [a5, g2 35 (by decide)]
                · show A227 36 = _
                  rw [a6, g2 36 (by decide)]
                · show A227 37 = _
                  rw [a7, g2 37 (by decide)]
          · exact absurd g c
        · rcases is with ⟨g, _⟩ | ⟨_, g⟩
          · exact absurd (g.symm.trans c) (by decide)
          · have k := d10f A220 hb.2.2.2 h2
            exact ⟨k.1, Or.inl ⟨k.2, Or.inr (Or.inl g)⟩⟩
    obtain ⟨z195, _, h2⟩ := (h2 : tr_d_X12_operand_8 B z v)
    rcases h2 with ⟨_, h2⟩ | ⟨_, h2⟩
    · exact d9 _ h2
    · exact d9 _ h2
  have inj : ∀ i j : Fin 26, own5 i.val = own5 j.val → i = j := by decide +kernel
  have two : ∀ {i j : Nat}, i < 26 → j < 26 → i ≠ j → tow f N p i → ¬ tow f N p j := by
    intro i j hi hj ne g1 g2
    have := inj ⟨i, hi⟩ ⟨j, hj⟩ (g1.2.symm.trans g2.2)
    exact ne (by simpa using this)
  have mm : ∀ {i : Nat}, i < 26 → 24 ≤ i → tow f N p i → ¬ tlf f N p := by
    intro i hi hi2 g1 g2
    rcases g2 with g | g | g | g | g
    · have := g1.1; omega
    · exact two hi (by decide) (by omega) g1 g
    · exact two hi (by decide) (by omega) g1 g
    · exact two hi (by decide) (by omega) g1 g
    · exact two hi (by decide) (by omega) g1 g
  obtain ⟨z120, i40, h2⟩ := (hq : tr_d_X12_operand_5 A B z v)
  have i40 := h.isS i40
  rcases h2 with ⟨c1, z124, im, h2⟩ | ⟨c1, A253, ho, hz, hv⟩
  · have n40 : ¬ tsg f N p 40 := by
      rcases i40 with ⟨g, _⟩ | ⟨_, g⟩
      · exact absurd (g.symm.trans c1) (by decide)
      · exact g
    have im := h.isW (WR_own24 : WR 7170414 14637) im
    rcases h2 with ⟨c2, h2⟩ | ⟨c2, z129, ix, h2⟩
    · rcases im with ⟨_, g⟩ | ⟨g, _⟩
      · exact Or.inr (Or.inr (Or.inl ⟨mm (by decide) (by decide) (show tow f N p 24 from g), n40, Or.inl g, d8 h2⟩))
      · exact absurd g c2
    · have nmin : ¬ tow f N p 24 := by
        rcases im with ⟨g, _⟩ | ⟨_, g⟩
        · exact absurd (g.symm.trans c2) (by decide)
        · exact g
      have ix := h.isW (WR_own25 : WR 7168376 24621) ix
      rcases h2 with ⟨c3, h2⟩ | ⟨c3, h2⟩
      · have nmax : ¬ tow f N p 25 := by
          rcases ix with ⟨g, _⟩ | ⟨_, g⟩
          · exact absurd (g.symm.trans c3) (by decide)
          · exact g
        rcases h2 with ⟨c4, z135, i20, h2⟩ | ⟨c4, h2⟩
        · have n2 : ¬ tKind f N p = 2 := fun g => c4 (by rw [hA, h.sg]; exact g)
          have i20 := h.isW (WR_own20 : WR 7825519 15639) i20
          rcases h2 with ⟨c5, z139, i21, h2⟩ | ⟨c5, h2⟩
          · have n20 : ¬ tow f N p 20 := by
              rcases i20 with ⟨g, _⟩ | ⟨_, g⟩
              · exact absurd (g.symm.trans c5) (by decide)
              · exact g
            have i21 := h.isW (WR_own21 : WR 1936748404 671251) i21
            rcases h2 with ⟨c6, z143, i22, h2⟩ | ⟨c6, h2⟩
            · have n21 : ¬ tow f N p 21 := by
                rcases i21 with ⟨g, _⟩ | ⟨_, g⟩
                · exact absurd (g.symm.trans c6) (by decide)
                · exact g
              have i22 := h.isW (WR_own22 : WR 1801812339 648363) i22
              rcases h2 with ⟨c7, z147, i23, h2⟩ | ⟨c7, h2⟩
              · have n22 : ¬ tow f N p 22 := by
                  rcases i22 with ⟨g, _⟩ | ⟨_, g⟩
                  · exact absurd (g.symm.trans c7) (by decide)
                  · exact g
                have i23 := h.isW (WR_own23 : WR 109317377451364 140098947) i23
                rcases h2 with ⟨c8, h2⟩ | ⟨c8, h2⟩
                · have n23 : ¬ tow f N p 23 := by
                    rcases i23 with ⟨g, _⟩ | ⟨_, g⟩
                    · exact absurd (g.symm.trans c8) (by decide)
                    · exact g
                  have nlf : ¬ tlf f N p := by
                    rintro (g | g | g | g | g)
                    · exact n2 g
                    · exact n20 g
                    · exact n21 g
                    · exact n22 g
                    · exact n23 g
                  have nmm : ¬ (tow f N p 24 ∨ tow f N p 25) := by
                    rintro (g | g)
                    · exact nmin g
                    · exact nmax g
                  exact Or.inr (Or.inr (Or.inr ⟨nlf, n40, nmm, d6n h2⟩))
                · rcases i23 with ⟨_, g⟩ | ⟨g, _⟩
                  · exact Or.inl ⟨Or.inr (Or.inr (Or.inr (Or.inr g))), d6 _ (by decide) h2⟩
                  · exact absurd g c8
              · rcases i22 with ⟨_, g⟩ | ⟨g, _⟩
                · exact Or.inl ⟨Or.inr (Or.inr (Or.inr (Or.inl g))), d6 _ (by decide) h2⟩
                · exact absurd g c7
            · rcases i21 with ⟨_, g⟩ | ⟨g, _⟩
              · exact Or.inl ⟨Or.inr (Or.inr (Or.inl g)), d6 _ (by decide) h2⟩
              · exact absurd g c6
          · rcases i20 with ⟨_, g⟩ | ⟨g, _⟩
            · exact Or.inl ⟨Or.inr (Or.inl g), d6 _ (by decide) h2⟩
            · exact absurd g c5
        · have t2 : tKind f N p = 2 := by rw [← h.sg, ← hA]; exact c4
          exact Or.inl ⟨Or.inl t2, d6 _ (by decide) h2⟩
      · rcases ix with ⟨_, g⟩ | ⟨g, _⟩
        · exact Or.inr (Or.inr (Or.inl ⟨mm (by decide) (by decide) (show tow f N p 25 from g), n40, Or.inr g, d8 h2⟩))
        · exact absurd g c3
  · rcases i40 with ⟨_, g⟩ | ⟨g, _⟩
    · exact Or.inr (Or.inl ⟨nl g, g, hz, by rw [hv]; exact ho⟩)
    · exact absurd g c1
/-- a test's fact begins -/
abbrev fst1 (D : Nat) (A : St) : Prop := (A 35 (D - 1) = 1 ∨ A 35 (D - 1) = 5) ∧ ¬ A 37 (D - 1) = 0
theorem O_base {f : Nat → Int} {N b p D : Nat} {A v : St} {z : Int} (h : MS f N b p A) (hD : A 0 53 = (D : Int)) (h1 : 1 ≤ D) (hq : q_X12_operand A z v) : (fst1 D A ∧ tow f N p 18 ∧ z = 0 ∧ AF f N b (tEnd f N p) (A 0 57) A v) ∨ (fst1 D A ∧ tsg f N p 91 ∧ z = 0 ∧ q_X12_opens 5 (stA A 37 (D - 1) 0) v) ∨ (fst1 D A ∧ tow f N p 19 ∧ z = 1 ∧ AF f N b (tEnd f N p) (A 0 57) (stA (stA A 37 (D - 1) 0) 36 (D - 1) 2) v) ∨ ((fst1 D A → ¬ tow f N p 18 ∧ ¬ tsg f N p 91 ∧ ¬ tow f N p 19) ∧ d_X12_operand_5 A (stA A 37 (D - 1) 0) z v) := by
  have ix : (A 0 53 - 1).toNat = D - 1 := by omega
  have s49 : MS f N b p (stA A 37 (D - 1) 0) := h.fr rfl (fun _ _ => rfl)
  obtain ⟨z1, hz1, z2, ht, h2⟩ := (hq.1 : tr_r_X12_operand A z v)
  rw [ix] at hz1
  have ht := isTest_iff ht
  rw [hz1] at ht
  have d3n : ¬ fst1 D A → d_X12_operand_3 0 A z v → d_X12_operand_5 A (stA A 37 (D - 1) 0) z v := by
    intro hn h2
    obtain ⟨A49, e, h2⟩ := (h2 : tr_d_X12_operand_3 0 A z v)
    rw [ix] at e
    rw [← e]
    rcases h2 with ⟨_, h2⟩ | ⟨c, _⟩
    · rcases (h2 : tr_d_X12_operand_4 0 A A49 z v) with ⟨_, h2⟩ | ⟨c, _⟩
      · exact h2
      · exact absurd rfl c
    · exact absurd rfl c
  have d2n : ¬ fst1 D A → d_X12_operand_2 A z v 0 → d_X12_operand_5 A (stA A 37 (D - 1) 0) z v := by
    intro hn h2
    obtain ⟨_, h2⟩ := (h2 : tr_d_X12_operand_2 A z v 0)
    rcases h2 with ⟨_, h2⟩ | ⟨c, _⟩
    · exact d3n hn h2
    · exact absurd rfl c
  rcases h2 with ⟨c, h2⟩ | ⟨c, z8, hz8, h2⟩
  · have nf : ¬ fst1 D A := by
      intro g
      rcases ht with ⟨g2, _⟩ | ⟨_, g2⟩
      · exact absurd (g2.symm.trans c) (by decide)
      · exact g2 g.1
    exact Or.inr (Or.inr (Or.inr ⟨fun g => absurd g nf, d2n nf h2⟩))
  · rw [ix] at hz8
    rcases h2 with ⟨c2, h2⟩ | ⟨c2, h2⟩
    · have nf : ¬ fst1 D A := fun g => g.2 (hz8.symm.trans c2)
      exact Or.inr (Or.inr (Or.inr ⟨fun g => absurd g nf, d2n nf h2⟩))
    · have yf : fst1 D A := by
        rcases ht with ⟨_, g2⟩ | ⟨g2, _⟩
        · exact ⟨g2, fun g => c2 (hz8.trans g)⟩
        · exact absurd g2 c
      obtain ⟨_, h2⟩ := (h2 : tr_d_X12_operand_2 A z v 1)
      rcases h2 with ⟨c3, _⟩ | ⟨_, z18, i18, h2⟩
      · exact absurd c3 (by decide)
      · have i18 := h.isW (WR_own18 : WR 7237492 20974) i18
        rcases h2 with ⟨c4, h2⟩ | ⟨c4, A22, hh, A25, ha, hz, hv⟩
        · have n18 : ¬ tow f N p 18 := by
            rcases i18 with ⟨g, _⟩ | ⟨_, g⟩
            · exact absurd (g.symm.trans c4) (by decide)
            · exact g
          obtain ⟨A49, e, h2⟩ := (h2 : tr_d_X12_operand_3 1 A z v)
          rw [ix] at e
          rw [← e] at s49 ⊢
          rcases h2 with ⟨c5, _⟩ | ⟨_, z59, i91, h2⟩
          · exact absurd c5 (by decide)
          · have i91 := s49.isS i91
            rcases h2 with ⟨c6, h2⟩ | ⟨c6, A63, ho, hz, hv⟩
            · have n91 : ¬ tsg f N p 91 := by
                rcases i91 with ⟨g, _⟩ | ⟨_, g⟩
                · exact absurd (g.symm.trans c6) (by decide)
                · exact g
              rcases (h2 : tr_d_X12_operand_4 1 A A49 z v) with ⟨c7, _⟩ | ⟨_, z76, i19, h2⟩
              · exact absurd c7 (by decide)
              · have i19 := s49.isW (WR_own19 : WR 6384748 12673) i19
                rcases h2 with ⟨c8, h2⟩ | ⟨c8, A80, had, A84, e84, A85, ha, hz, hv⟩
                · have n19 : ¬ tow f N p 19 := by
                    rcases i19 with ⟨g, _⟩ | ⟨_, g⟩
                    · exact absurd (g.symm.trans c8) (by decide)
                    · exact g
                  exact Or.inr (Or.inr (Or.inr ⟨fun _ => ⟨n18, n91, n19⟩, h2⟩))
                · rcases i19 with ⟨_, g⟩ | ⟨g, _⟩
                  · refine Or.inr (Or.inr (Or.inl ⟨yf, g, hz, ?_⟩))
                    rw [ix] at e84
                    have s := q_add_sb had
                    have hG : MG f N b (tEnd f N p) A84 := by
                      rw [e84]
                      exact (s49.go.sb s).fr rfl (fun _ _ => rfl)
                    obtain ⟨a1, a2, a3, a4, a5, a6, a7⟩ := AF.mk0 hG ha rfl
                    rw [hv]
                    refine ⟨a1, ?_, ?_, ?_, ?_, ?_, ?_⟩
                    · rw [a2, e84]; exact s.k 53 rfl
                    · rw [a3, e84]; exact s.k 54 rfl
                    · rw [a4, e84]
                      show A80 0 57 = A 0 57
                      rw [s.k 57 rfl, e]; rfl
                    · rw [a5, e84]; exact s.r 35 (by decide) rfl
                    · rw [a6, e84, stA_same, stA_same, s.r 36 (by decide) rfl]
                    · rw [a7, e84]; exact s.r 37 (by decide) rfl
                  · exact absurd g c8
            · rcases i91 with ⟨_, g⟩ | ⟨g, _⟩
              · exact Or.inr (Or.inl ⟨yf, g, hz, by rw [hv]; exact ho⟩)
              · exact absurd g c6
        · rcases i18 with ⟨_, g⟩ | ⟨g, _⟩
          · refine Or.inl ⟨yf, g, hz, ?_⟩
            have s := q_holds_sb hh
            rw [hv]
            exact (AF.mk0 (h.go.sb s) ha (s.k 57 rfl)).cg s
          · exact absurd g c4
/-! The reference's tests against the class's: parts. -/
theorem sOwn_pos {f : Nat → Int} {N p k : Nat} (h : tow f N p k) : sOwn f N k p = some (tEnd f N p) := by
  unfold sOwn
  rw [if_pos h]
theorem sOwn_neg {f : Nat → Int} {N p k : Nat} (h : ¬ tow f N p k) : sOwn f N k p = none := by
  unfold sOwn
  rw [if_neg h]
theorem sSign_pos {f : Nat → Int} {N p : Nat} {c : Int} (h : tsg f N p c) : sSign f N c p = some (tEnd f N p) := by
  unfold sSign
  rw [if_pos h]
theorem sSign_neg {f : Nat → Int} {N p : Nat} {c : Int} (h : ¬ tsg f N p c) : sSign f N c p = none := by
  unfold sSign
  rw [if_neg h]
theorem own5_inj26 : ∀ i j : Fin 26, own5 i.val = own5 j.val → i = j := by decide +kernel
theorem tow_ne {f : Nat → Int} {N p i j : Nat} (h : tow f N p i) (hi : i < 26) (hj : j < 26) (ne : i ≠ j) : ¬ tow f N p j := by
  intro g
  have := own5_inj26 ⟨i, hi⟩ ⟨j, hj⟩ (h.2.symm.trans g.2)
  exact ne (by simpa using this)
theorem tow_sg {f : Nat → Int} {N p i : Nat} {c : Int} (h : tow f N p i) : ¬ tsg f N p c := fun g => by have := h.1; have := g.1; omega
theorem sPart_lf {f : Nat → Int} {N p : Nat} (h : tlf f N p) : ∃ x, ∀ n S T, sPart f N n S T p = sAd2 (some (T, tEnd f N p)) x := by
  rcases h with h | h | h | h | h
  · exact ⟨nv f N p, fun n S T => by unfold sPart; rw [if_pos h]⟩
  · refine ⟨-1, fun n S T => ?_⟩
    unfold sPart
    rw [if_neg (by have := h.1; omega), sSign_neg (tow_sg h), sOwn_pos h]
  · refine ⟨-2, fun n S T => ?_⟩
    unfold sPart
    rw [if_neg (by have := h.1; omega), sSign_neg (tow_sg h), sOwn_neg (tow_ne h (by decide) (by decide) (by decide)), sOwn_pos h]
  · refine ⟨-3, fun n S T => ?_⟩
    unfold sPart
    rw [if_neg (by have := h.1; omega), sSign_neg (tow_sg h), sOwn_neg (tow_ne h (by decide) (by decide) (by decide)), sOwn_neg (tow_ne h (by decide) (by decide) (by decide)), sOwn_pos h]
  · refine ⟨-4, fun n S T => ?_⟩
    unfold sPart
    rw [if_neg (by have := h.1; omega), sSign_neg (tow_sg h), sOwn_neg (tow_ne h (by decide) (by decide) (by decide)), sOwn_neg (tow_ne h (by decide) (by decide) (by decide)), sOwn_neg (tow_ne h (by decide) (by decide) (by decide)), sOwn_pos h]
theorem sPart_br {f : Nat → Int} {N p n : Nat} {S : PT} {T : St} (h : tsg f N p 40) : sPart f N n S T p = if n = 0 then none else (S T (tEnd f N p)).bind fun a => (sSign f N 41 a.2).bind fun p2 => some (a.1, p2) := by
  unfold sPart
  rw [if_neg (by have := h.1; omega), sSign_pos h]
theorem sPart_mm {f : Nat → Int} {N p : Nat} (h : tow f N p 24 ∨ tow f N p 25) : ∃ x, ∀ n S T, sPart f N n S T p = sAd2 (sPair f N n S T (tEnd f N p)) x := by
  rcases h with h | h
  · refine ⟨-17, fun n S T => ?_⟩
    unfold sPart
    rw [if_neg (by have := h.1; omega), sSign_neg (tow_sg h), sOwn_neg (tow_ne h (by decide) (by decide) (by decide)), sOwn_neg (tow_ne h (by decide) (by decide) (by decide)), sOwn_neg (tow_ne h (by decide) (by decide) (by decide)), sOwn_neg (tow_ne h (by decide) (by decide) (by decide)), sOwn_pos h]
  · refine ⟨-18, fun n S T => ?_⟩
    unfold sPart
    rw [if_neg (by have := h.1; omega), sSign_neg (tow_sg h), sOwn_neg (tow_ne h (by decide) (by decide) (by decide)), sOwn_neg (tow_ne h (by decide) (by decide) (by decide)), sOwn_neg (tow_ne h (by decide) (by decide) (by decide)), sOwn_neg (tow_ne h (by decide) (by decide) (by decide)), sOwn_neg (tow_ne h (by decide) (by decide) (by decide)), sOwn_pos h]
theorem sPart_no {f : Nat → Int} {N p n : Nat} {S : PT} {T : St} (h1 : ¬ tlf f N p) (h2 : ¬ tsg f N p 40) (h3 : ¬ (tow f N p 24 ∨ tow f N p 25)) : sPart f N n S T p = none := by
  unfold sPart
  rw [if_neg (fun g => h1 (Or.inl g)), sSign_neg h2, sOwn_neg (fun g => h1 (Or.inr (Or.inl g))), sOwn_neg (fun g => h1 (Or.inr (Or.inr (Or.inl g)))), sOwn_neg (fun g => h1 (Or.inr (Or.inr (Or.inr (Or.inl g))))), sOwn_neg (fun g => h1 (Or.inr (Or.inr (Or.inr (Or.inr g))))), sOwn_neg (fun g => h3 (Or.inl g)), sOwn_neg (fun g => h3 (Or.inr g))]
theorem bad_part {f : Nat → Int} {N p n : Nat} {S : PT} {T : St} (h : tKind f N p = 4) : sPart f N n S T p = none := by
  refine sPart_no ?_ (fun g => by have := g.1; omega) ?_
  · rintro (g | g | g | g | g)
    · omega
    · have := g.1; omega
    · have := g.1; omega
    · have := g.1; omega
    · have := g.1; omega
  · rintro (g | g)
    · have := g.1; omega
    · have := g.1; omega
theorem sAdC_ok {T : St} {x : Int} (h : T 19 2 < 1600) : ∃ t, sAdC T x = some t ∧ t 19 2 = T 19 2 + 1 := by
  unfold sAdC
  rw [if_pos h]
  refine ⟨_, rfl, ?_⟩
  rw [stA_same, up_same]
theorem sAd2_ok {T : St} {e : Nat} {x : Int} (h : T 19 2 < 1600) : ∃ t, sAd2 (some (T, e)) x = some (t, e) ∧ t 19 2 = T 19 2 + 1 := by
  obtain ⟨t, h1, h2⟩ := sAdC_ok (x := x) h
  refine ⟨t, ?_, h2⟩
  unfold sAd2
  show ((sAdC T x).bind fun t => some (t, e)) = some (t, e)
  rw [h1]
  rfl
theorem Bad.ad2 {f : Nat → Int} {N : Nat} {r : Option (St × Nat)} {x : Int} (h : Bad f N r) : Bad f N (sAd2 r x) := by
  unfold sAd2
  refine h.bd (fun a ha => ?_)
  cases sAdC a.1 x with
  | none => exact Or.inl rfl
  | some t => exact Or.inr ⟨(t, a.2), rfl, ha⟩
/-- the frames are as before; the top one's fact has begun -/
def TP (D : Nat) (A A' : St) : Prop := A' 0 53 = A 0 53 ∧ A' 0 54 = A 0 54 ∧ (∀ i, i < D → A' 35 i = A 35 i ∧ A' 36 i = A 36 i) ∧ (∀ i, i + 1 < D → A' 37 i = A 37 i) ∧ A' 37 (D - 1) = 0
theorem TP.trans {D : Nat} {A B C : St} (h : TP D A B) (g : TP D B C) : TP D A C := ⟨g.1.trans h.1, g.2.1.trans h.2.1, fun i hi => ⟨(g.2.2.1 i hi).1.trans (h.2.2.1 i hi).1, (g.2.2.1 i hi).2.trans (h.2.2.1 i hi).2⟩, fun i hi => (g.2.2.2.1 i hi).trans (h.2.2.2.1 i hi), g.2.2.2.2⟩
def Out (f : Nat → Int) (N b : Nat) (u : St) (D : Nat) (A T : St) (p q : Nat) (X : Nat → Prop) (r : Option (St × Nat)) : Prop := (1 ≤ u 0 8 ∧ Bad f N r) ∨ (∃ a A', r = some a ∧ MS f N b a.2 A' ∧ RN u A' ∧ A' 0 57 = 1 ∧ TP D A A' ∧ X a.2 ∧ q ≤ a.2 ∧ a.1 19 2 + (p : Int) ≤ T 19 2 + (a.2 : Int))
abbrev pln (f : Nat → Int) (N p D : Nat) (A : St) : Prop := fst1 D A → ¬ tow f N p 18 ∧ ¬ tsg f N p 91 ∧ ¬ tow f N p 19
def SimS (f : Nat → Int) (N b : Nat) (u : St) (o : Int) (S : PT) : Prop := (∀ T p, tKind f N p = 4 → S T p = none) ∧ ∀ (A T : St) (p D : Nat), MS f N b p A → RN u A → A 0 57 = 0 → A 0 53 = (D : Int) → 1 ≤ D → A 0 54 = o → pln f N p D A → A 36 (D - 1) < 2 → T 19 2 ≤ (p : Int) → 1 ≤ p → Out f N b u D A T p (p + 1) (fun e => ¬ tari f N e) (S T p)
/-- goesOn where no sign of a sum stands, in a frame that is no test -/
theorem G_in {f : Nat → Int} {N b p D : Nat} {A v : St} {z : Int} (h : MS f N b p A) (hD : A 0 53 = (D : Int)) (h1 : 1 ≤ D) (hk : ¬ (A 35 (D - 1) = 1 ∨ A 35 (D - 1) = 5)) (ht : ¬ tari f N p) (hq : q_X12_goesOn A z v) : d_X12_goesOn_8 A z v (A 35 (D - 1)) A := by
  rcases G_base h hD h1 hq with ⟨_, g, _⟩ | ⟨_, z2, hz2, h2⟩
  · exact absurd g ht
  · have e2 : z2 = 0 := by
      rcases hz2 with ⟨_, g⟩ | ⟨g, _⟩
      · exact absurd g hk
      · exact g
    have n1 : ¬ z2 = 1 := fun g => absurd (g.symm.trans e2) (by decide)
    rcases G_cmp h hD h1 (Or.inr e2) h2 with ⟨g, _⟩ | ⟨_, h2⟩
    · exact absurd g n1
    · rcases G_andor h hD h1 (Or.inr e2) h2 with ⟨g, _⟩ | ⟨_, h2⟩
      · exact absurd g n1
      · rcases G_end h hD h1 (Or.inr e2) h2 with ⟨g, _⟩ | ⟨_, h2⟩
        · exact absurd g n1
        · exact h2
theorem MO.nf {f : Nat → Int} {N b e : Nat} {v : St} (h : MO f N b e v) (g : v 0 8 = 0) : MS f N b e v := by
  rcases h with ⟨_, h⟩ | ⟨_, h⟩
  · omega
  · exact h
theorem MO.ff {f : Nat → Int} {N b e : Nat} {v : St} (h : MO f N b e v) (g : ¬ v 0 8 = 0) : tKind f N e = 4 ∧ 1 ≤ v 0 8 := by
  rcases h with h | ⟨h, _⟩
  · exact h
  · exact absurd h g
/-- behind an opening bracket: the deeper sum, and where it stands then -/
theorem S_deep {f : Nat → Int} {N b p D : Nat} {u A B T : St} {o k : Int} {S : PT} (hS : SimS f N b u (o + 1) S) (hk : ¬ (k = 1 ∨ k = 5)) (hB8 : B 0 8 = 0) (hop : OP f N b p D o 0 k A B) (hr : RN u B) (hT : T 19 2 ≤ (p : Int)) (hp : 1 ≤ p) : Out f N b u (D + 1) B T p (p + 1) (fun e => ¬ tari f N e) (S T p) := by
  obtain ⟨a1, a2, a3, a4, a5, a6, a7⟩ := hop
  refine hS.2 B T p (D + 1) (a1.nf hB8) hr a4 (by rw [a2]; rfl) (by omega) a3 (fun g => ?_) ?_ hT hp
  · have := g.1
    rw [a5, show D + 1 - 1 = D by omega, up_same] at this
    exact absurd this hk
  · rw [a6, show D + 1 - 1 = D by omega, up_same]
    decide
theorem up_lt {g : Nat → Int} {D i : Nat} {v : Int} (h : i < D) : up g D v i = g i := up_ne _ _ (by omega)
/-- a bracket closes: where it stands then -/
theorem C_close {f : Nat → Int} {N b D e e' : Nat} {u A B A2 T : St} {o : Int} {X : Nat → Prop} {a : St × Nat} {kk : Int} (h1 : 1 ≤ D) (hA53 : A 0 53 = (D : Int)) (hA54 : A 0 54 = o) (b54 : B 0 54 = o + 1) (b53 : B 0 53 = (D : Int) + 1) (hb : ∀ i, i < D → B 35 i = A 35 i ∧ B 36 i = A 36 i) (hb7 : ∀ i, i + 1 < D → B 37 i = A 37 i) (hb70 : B 37 (D - 1) = 0) (hs : MS f N b a.2 A2) (hr : RN u A2) (h57 : A2 0 57 = 1) (ht : TP (D + 1) B A2) (hX : ¬ tari f N a.2) (hkk : A2 35 D = kk) (hk24 : kk = 2 ∨ kk = 4) : (1 ≤ u 0 8 ∧ (¬ tsg f N a.2 41 ∨ (tsg f N a.2 41 ∧ tKind f N (tEnd f N a.2) = 4))) ∨ (tsg f N a.2 41 ∧ ∃ A', MS f N b (tEnd f N a.2) A' ∧ RN u A' ∧ A' 0 57 = 1 ∧ TP D A A') := by
  obtain ⟨z, C, hg, h3⟩ := RN_go hr (by rw [h57]; decide)
  have d2 : A2 0 53 = ((D + 1 : Nat) : Int) := by rw [ht.1, b53]; rfl
  have ed : D + 1 - 1 = D := by omega
  have g8 := G_in (D := D + 1) hs d2 (by omega) (by rw [ed, hkk]; omega) hX hg
  rw [ed, hkk] at g8
  have hk : (kk = 2 ∧ (41 : Int) = 41) ∨ (kk = 4 ∧ (41 : Int) = 41) ∨ (kk = 5 ∧ (41 : Int) = 93) := by
    rcases hk24 with g | g
    · exact Or.inl ⟨g, rfl⟩
    · exact Or.inr (Or.inl ⟨g, rfl⟩)
  rcases G_kc hk hs d2 (by omega) g8 with ⟨n, hz, f1⟩ | ⟨y, hz, mo, c53, c54, c57, c35, c36, c37⟩
  · refine Or.inl ⟨?_, Or.inl n⟩
    rcases h3 with ⟨_, e⟩ | ⟨c, _⟩ | ⟨c, _⟩
    · rw [e]; exact f1
    · exact absurd hz c
    · exact absurd hz c
  · have nz : ¬ z = 0 := by rw [hz]; decide
    rcases h3 with ⟨c, _⟩ | ⟨_, c8, e⟩ | ⟨_, c8, hr2⟩
    · exact absurd c nz
    · have g := mo.ff c8
      exact Or.inl ⟨by rw [e]; exact g.2, Or.inr ⟨y, g.1⟩⟩
    · refine Or.inr ⟨y, C, mo.nf c8, hr2, c57.trans h57, ?_, ?_, fun i hi => ?_, fun i hi => ?_, ?_⟩
      · rw [c53, hA53]
        show ((D + 1 : Nat) : Int) - 1 = (D : Int)
        omega
      · rw [c54, ht.2.1, b54, hA54]; omega
      · have t := ht.2.2.1 i (by omega)
        rw [c35, c36, if_neg (by omega)]
        exact ⟨t.1.trans (hb i hi).1, t.2.trans (hb i hi).2⟩
      · rw [c37, ht.2.2.2.1 i (by omega)]
        exact hb7 i hi
      · rw [c37, ht.2.2.2.1 (D - 1) (by omega)]
        exact hb70
theorem Sim_part {f : Nat → Int} {N b n : Nat} {u : St} {o : Int} {S : PT} (hn : (n : Int) + o = 8) (hS : 0 < n → SimS f N b u (o + 1) S) {A T : St} {p D : Nat} (h : MS f N b p A) (hr : RN u A) (h57 : A 0 57 = 0) (hD : A 0 53 = (D : Int)) (h1 : 1 ≤ D) (h54 : A 0 54 = o) (hpl : pln f N p D A) (hT : T 19 2 ≤ (p : Int)) (hp : 1 ≤ p) : Out f N b u D A T p (p + 1) (fun _ => True) (sPart f N n S T p) := by
  obtain ⟨z, B, hq, h2⟩ := RN_op hr h57
  have s49 : MS f N b p (stA A 37 (D - 1) 0) := h.fr rfl (fun _ _ => rfl)
  have tb := tEnd_b (f := f) h.le
  have N16 : N ≤ 1600 := h.1.2.1
  rcases O_base h hD h1 hq with ⟨g, g2, _⟩ | ⟨g, g2, _⟩ | ⟨g, g2, _⟩ | ⟨_, h5⟩
  · exact absurd g2 (hpl g).1
  · exact absurd g2 (hpl g).2.1
  · exact absurd g2 (hpl g).2.2
  · have r5 := O_5 (D := D) s49 rfl rfl hD h5
    have e57 : stA A 37 (D - 1) 0 0 57 = 0 := h57
    have e54 : stA A 37 (D - 1) 0 0 54 = o := h54
    rw [e57, e54] at r5
    have r37 : ∀ i, i + 1 < D → up (A 37) (D - 1) 0 i = A 37 i := fun i hi => up_ne _ _ (by omega)
    rcases r5 with ⟨lf, hz, a1, a2, a3, a4, a5, a6, a7⟩ | ⟨_, y, hz, ho⟩ | ⟨nlf, n40, mm, hz, pr⟩ | ⟨nlf, n40, nmm, hz, f1⟩
    · obtain ⟨x, sx⟩ := sPart_lf lf
      have tk0 : tKind f N p ≠ 0 := by
        rcases lf with g | g | g | g | g
        · omega
        · have := g.1; omega
        · have := g.1; omega
        · have := g.1; omega
        · have := g.1; omega
      have lt := tb.2.2.2 tk0
      obtain ⟨t, st, et⟩ := sAd2_ok (T := T) (e := tEnd f N p) (x := x) (by omega)
      rw [sx, st]
      rcases h2 with ⟨c, e⟩ | ⟨c, hr2⟩
      · have g := a1.ff c
        exact Or.inl ⟨by rw [e]; exact g.2, Or.inr ⟨_, rfl, g.1⟩⟩
      · refine Or.inr ⟨(t, tEnd f N p), stA B 0 57 z, rfl, (a1.nf c).fr rfl (fun k hk => st0_k (by decide) (by decide) hk), hr2, hz, ⟨a2, a3, fun i hi => ?_, fun i hi => ?_, ?_⟩, trivial, by show p + 1 ≤ tEnd f N p; omega, ?_⟩
        · show B 35 i = A 35 i ∧ B 36 i = A 36 i
          rw [a5, a6]
          exact ⟨rfl, rfl⟩
        · show B 37 i = A 37 i
          rw [a7]
          exact r37 i hi
        · show B 37 (D - 1) = 0
          rw [a7, stA_same, up_same]
        · show t 19 2 + (p : Int) ≤ T 19 2 + (tEnd f N p : Int)
          omega
    · rw [sPart_br y]
      have lt := tb.2.2.2 (by have := y.1; omega)
      rcases O_opens s49 hD ho with ⟨o8, f1⟩ | ⟨o8, op⟩
      · have o8 : o = 8 := by rw [← e54]; exact o8
        have n0 : n = 0 := by omega
        rw [if_pos n0]
        refine Or.inl ⟨?_, Or.inl rfl⟩
        rcases h2 with ⟨_, e⟩ | ⟨c, _⟩
        · rw [e]; exact f1
        · omega
      · rw [e54] at o8
        rw [e54, e57] at op
        have n0 : 0 < n := by omega
        rw [if_neg (by omega)]
        have hS := hS n0
        rcases h2 with ⟨c, e⟩ | ⟨c, hr2⟩
        · have g := op.1.ff c
          refine Or.inl ⟨by rw [e]; exact g.2, Or.inl ?_⟩
          rw [hS.1 T _ g.1]
          rfl
        · have hop : OP f N b (tEnd f N p) D o 0 2 (stA A 37 (D - 1) 0) (stA B 0 57 z) := by
            obtain ⟨a1, a2, a3, a4, a5, a6, a7⟩ := op
            exact ⟨a1.fr rfl (fun k hk => st0_k (by decide) (by decide) hk), a2, a3, hz, a5, a6, a7⟩
          have sd := S_deep (k := 2) (B := stA B 0 57 z) hS (by decide) c hop hr2 (show T 19 2 ≤ (tEnd f N p : Int) by omega) (by omega)
          obtain ⟨a1, a2, a3, a4, a5, a6, a7⟩ := hop
          rcases sd with ⟨f1, bd⟩ | ⟨a, A2, sa, ms, hr3, m57, tp, na, q, cd⟩
          · exact Or.inl ⟨f1, bd.bd (fun c hc => by rw [bad_sign hc]; exact Or.inl rfl)⟩
          · rw [sa]
            show Out f N b u D A T p (p + 1) (fun _ => True) ((sSign f N 41 a.2).bind fun p2 => some (a.1, p2))
            have tb2 := tEnd_b (f := f) ms.le
            have cl := C_close (T := T) (X := fun _ => True) (e := 0) (e' := 0) (kk := 2) h1 hD h54 a3 a2 (fun i hi => by rw [a5, a6, up_lt hi, up_lt hi]; exact ⟨rfl, rfl⟩) (fun i hi => by rw [a7, up_lt (by omega)]; exact r37 i hi) (by rw [a7, up_lt (by omega), stA_same, up_same]) ms hr3 m57 tp na (by rw [(tp.2.2.1 D (by omega)).1, a5, up_same]) (Or.inl rfl)
            rcases cl with ⟨f1, g⟩ | ⟨y2, A', s', r', x', t'⟩
            · refine Or.inl ⟨f1, ?_⟩
              rcases g with g | ⟨g, g4⟩
              · rw [sSign_neg g]; exact Or.inl rfl
              · rw [sSign_pos g]; exact Or.inr ⟨_, rfl, g4⟩
            · rw [sSign_pos y2]
              refine Or.inr ⟨(a.1, tEnd f N a.2), A', rfl, s', r', x', t', trivial, ?_, ?_⟩
              · show p + 1 ≤ tEnd f N a.2; omega
              · show a.1 19 2 + (p : Int) ≤ T 19 2 + (tEnd f N a.2 : Int)
                omega
    · obtain ⟨x, sx⟩ := sPart_mm mm
      rw [sx]
      have lt := tb.2.2.2 (by rcases mm with g | g <;> · have := g.1; omega)
      rcases pr with ⟨f1, g⟩ | ⟨y, o8, f8, op⟩
      · refine Or.inl ⟨?_, Bad.ad2 (Or.inl ?_)⟩
        · rcases h2 with ⟨_, e⟩ | ⟨c, _⟩
          · rw [e]; exact f1
          · omega
        · unfold sPair
          rcases g with g | g | g | ⟨g, g4⟩
          · rw [bad_sign g]; rfl
          · rw [sSign_neg g]; rfl
          · have n0 : n = 0 := by omega
            cases sSign f N 40 (tEnd f N p) with
            | none => rfl
            | some p1 =>
              show (if n = 0 then none else _) = none
              rw [if_pos n0]
          · rw [sSign_pos g]
            show (if n = 0 then none else (S T (tEnd f N (tEnd f N p))).bind _) = none
            by_cases n0 : n = 0
            · rw [if_pos n0]
            · rw [if_neg n0, (hS (by omega)).1 T _ g4]
              rfl
      · have n0 : 0 < n := by omega
        have hS := hS n0
        have sp : sPair f N n S T (tEnd f N p) = (S T (tEnd f N (tEnd f N p))).bind fun a => (sSign f N 44 a.2).bind fun p2 => (S a.1 p2).bind fun b => (sSign f N 41 b.2).bind fun p3 => some (b.1, p3) := by
          unfold sPair
          rw [sSign_pos y]
          show (if n = 0 then none else _) = _
          rw [if_neg (by omega)]
        rw [sp]
        rcases h2 with ⟨c, _⟩ | ⟨_, hr2⟩
        · exact absurd f8 c
        · have tb1 := tEnd_b (f := f) (p := tEnd f N p) tb.2.2.1
          have lt1 := tb1.2.2.2 (by have := y.1; omega)
          have hop : OP f N b (tEnd f N (tEnd f N p)) D o 0 3 (stA A 37 (D - 1) 0) (stA B 0 57 z) := by
            obtain ⟨a1, a2, a3, a4, a5, a6, a7⟩ := op
            exact ⟨a1.fr rfl (fun k hk => st0_k (by decide) (by decide) hk), a2, a3, hz, a5, a6, a7⟩
          have sd := S_deep (k := 3) (B := stA B 0 57 z) hS (by decide) f8 hop hr2 (show T 19 2 ≤ (tEnd f N (tEnd f N p) : Int) by omega) (by omega)
          obtain ⟨a1, a2, a3, a4, a5, a6, a7⟩ := hop
          rcases sd with ⟨f1, bd⟩ | ⟨a, A2, sa, ms, hr3, m57, tp, na, q, cd⟩
          · exact Or.inl ⟨f1, Bad.ad2 (bd.bd (fun c hc => by rw [bad_sign hc]; exact Or.inl rfl))⟩
          · rw [sa]
            show Out f N b u D A T p (p + 1) (fun _ => True) (sAd2 ((sSign f N 44 a.2).bind fun p2 => (S a.1 p2).bind fun b => (sSign f N 41 b.2).bind fun p3 => some (b.1, p3)) x)
            have ed : D + 1 - 1 = D := by omega
            have d2 : A2 0 53 = ((D + 1 : Nat) : Int) := by rw [tp.1, a2]; rfl
            have k3 : A2 35 D = 3 := by rw [(tp.2.2.1 D (by omega)).1, a5, up_same]
            have ph0 : A2 36 D = 0 := by rw [(tp.2.2.1 D (by omega)).2, a6, up_same]
            obtain ⟨z3, C, hg, h3⟩ := RN_go hr3 (by rw [m57]; decide)
            have g8 := G_in (D := D + 1) ms d2 (by omega) (by rw [ed, k3]; decide) na hg
            rw [ed, k3] at g8
            have tb2 := tEnd_b (f := f) ms.le
            rcases G_k3 (D := D + 1) ms d2 (by omega) g8 with ⟨n44, hz3, f1⟩ | ⟨y44, hz3, Bc, eBc, c1, c2, c3, c4, c5, c6, c7⟩
            · refine Or.inl ⟨?_, Bad.ad2 (Or.inl (by rw [sSign_neg n44]; rfl))⟩
              rcases h3 with ⟨_, e⟩ | ⟨c, _⟩ | ⟨c, _⟩
              · rw [e]; exact f1
              · exact absurd hz3 c
              · exact absurd hz3 c
            · rw [sSign_pos y44]
              show Out f N b u D A T p (p + 1) (fun _ => True) (sAd2 ((S a.1 (tEnd f N a.2)).bind fun b => (sSign f N 41 b.2).bind fun p3 => some (b.1, p3)) x)
              have nz : ¬ z3 = 0 := by rw [hz3]; decide
              have lt2 := tb2.2.2.2 (by have := y44.1; omega)
              rcases h3 with ⟨c, _⟩ | ⟨_, c8, e⟩ | ⟨_, c8, hr4⟩
              · exact absurd c nz
              · have g := c1.ff c8
                refine Or.inl ⟨by rw [e]; exact g.2, Bad.ad2 (Or.inl ?_)⟩
                rw [hS.1 _ _ g.1]
                rfl
              · have C35 : C 35 = up (A2 35) D 4 := by rw [c5, eBc, ed]; rfl
                have C36 : C 36 = A2 36 := by rw [c6, eBc]; rfl
                have C37 : C 37 = A2 37 := by rw [c7, eBc]; rfl
                have C53 : C 0 53 = ((D + 1 : Nat) : Int) := by rw [c2, eBc]; exact d2
                have C54 : C 0 54 = o + 1 := by
                  rw [c3, eBc]
                  show A2 0 54 = o + 1
                  rw [tp.2.1, a3]
                have sd2 := hS.2 C a.1 (tEnd f N a.2) (D + 1) (c1.nf c8) hr4 c4 C53 (by omega) C54 (fun g => by have := g.1; rw [ed, C35, up_same] at this; exact absurd this (by decide)) (by rw [ed, C36, ph0]; decide) (by omega) (by omega)
                rcases sd2 with ⟨f1, bd⟩ | ⟨b2, A4, sb2, ms4, hr5, m574, tp4, na4, q4, cd4⟩
                · exact Or.inl ⟨f1, Bad.ad2 (bd.bd (fun c hc => by rw [bad_sign hc]; exact Or.inl rfl))⟩
                · rw [sb2]
                  show Out f N b u D A T p (p + 1) (fun _ => True) (sAd2 ((sSign f N 41 b2.2).bind fun p3 => some (b2.1, p3)) x)
                  have tb4 := tEnd_b (f := f) ms4.le
                  have cl := C_close (T := T) (X := fun _ => True) (e := 0) (e' := 0) (kk := 4) (B := C) h1 hD h54 C54 (by rw [C53]; rfl) (fun i hi => by
                    have t := tp.2.2.1 i (by omega)
                    rw [C35, C36, up_lt hi, t.1, t.2, a5, a6, up_lt hi, up_lt hi]
                    exact ⟨rfl, rfl⟩) (fun i hi => by
                    rw [C37, tp.2.2.2.1 i (by omega), a7, up_lt (by omega)]
                    exact r37 i hi) (by rw [C37, tp.2.2.2.1 (D - 1) (by omega), a7, up_lt (by omega), stA_same, up_same]) ms4 hr5 m574 tp4 na4 (by rw [(tp4.2.2.1 D (by omega)).1, C35, up_same]) (Or.inr rfl)
                  rcases cl with ⟨f1, g⟩ | ⟨y2, A', s', r', x', t'⟩
                  · refine Or.inl ⟨f1, Bad.ad2 ?_⟩
                    rcases g with g | ⟨g, g4⟩
                    · rw [sSign_neg g]; exact Or.inl rfl
                    · rw [sSign_pos g]; exact Or.inr ⟨_, rfl, g4⟩
                  · rw [sSign_pos y2]
                    obtain ⟨t, st, et⟩ := sAd2_ok (T := b2.1) (e := tEnd f N b2.2) (x := x) (by omega)
                    show Out f N b u D A T p (p + 1) (fun _ => True) (sAd2 (some (b2.1, tEnd f N b2.2)) x)
                    rw [st]
                    refine Or.inr ⟨(t, tEnd f N b2.2), A', rfl, s', r', x', t', trivial, ?_, ?_⟩
                    · show p + 1 ≤ tEnd f N b2.2; omega
                    · show t 19 2 + (p : Int) ≤ T 19 2 + (tEnd f N b2.2 : Int)
                      omega
    · rw [sPart_no nlf n40 nmm]
      refine Or.inl ⟨?_, Or.inl rfl⟩
      rcases h2 with ⟨_, e⟩ | ⟨c, _⟩
      · rw [e]; exact f1
      · omega
/-! The reference's sums against the class's. -/
theorem A_step {f : Nat → Int} {N b p D : Nat} {u A : St} (h : MS f N b p A) (hr : RN u A) (h57 : A 0 57 = 1) (hD : A 0 53 = (D : Int)) (h1 : 1 ≤ D) (hph : A 36 (D - 1) < 2) (ha : tari f N p) : (1 ≤ u 0 8 ∧ tKind f N (tEnd f N p) = 4) ∨ (∃ v, MS f N b (tEnd f N p) v ∧ RN u v ∧ v 0 57 = 0 ∧ v 0 53 = A 0 53 ∧ v 0 54 = A 0 54 ∧ v 35 = A 35 ∧ v 36 = A 36 ∧ v 37 = A 37) := by
  obtain ⟨z, v, hg, h3⟩ := RN_go hr (by rw [h57]; decide)
  rcases G_base h hD h1 hg with ⟨_, _, hz, a1, a2, a3, a4, a5, a6, a7⟩ | ⟨g, _⟩
  · have nz : ¬ z = 0 := by rw [hz]; decide
    rcases h3 with ⟨c, _⟩ | ⟨_, c8, e⟩ | ⟨_, c8, hr2⟩
    · exact absurd c nz
    · have g := a1.ff c8
      exact Or.inl ⟨by rw [e]; exact g.2, g.1⟩
    · exact Or.inr ⟨v, a1.nf c8, hr2, a4, a2, a3, a5, a6, a7⟩
  · exact absurd ⟨hph, ha⟩ g
theorem TP.cg {D : Nat} {A v A' : St} (h : TP D v A') (h53 : v 0 53 = A 0 53) (h54 : v 0 54 = A 0 54) (h35 : v 35 = A 35) (h36 : v 36 = A 36) (h37 : v 37 = A 37) : TP D A A' := by
  unfold TP
  rw [← h53, ← h54, ← h35, ← h36, ← h37]
  exact h
theorem TP.rf {D : Nat} {A : St} (h : A 37 (D - 1) = 0) : TP D A A := ⟨rfl, rfl, fun _ _ => ⟨rfl, rfl⟩, fun _ _ => rfl, h⟩
theorem bad_prodL {f : Nat → Int} {N n p : Nat} {S : PT} {T : St} (h : tKind f N p = 4) : ∀ k, Bad f N (sProdL f N n S k T p)
  | 0 => Or.inl rfl
  | k + 1 => by
    unfold sProdL
    rw [bad_sign h, bad_sign h, bad_sign h]
    exact Or.inr ⟨(T, p), rfl, h⟩
theorem bad_sumL {f : Nat → Int} {N n p : Nat} {S : PT} {T : St} (h : tKind f N p = 4) : ∀ k, Bad f N (sSumL f N n S k T p)
  | 0 => Or.inl rfl
  | k + 1 => by
    unfold sSumL
    rw [bad_sign h, bad_sign h]
    exact Or.inr ⟨(T, p), rfl, h⟩
theorem bad_prod {f : Nat → Int} {N n p : Nat} {S : PT} {T : St} (h : tKind f N p = 4) : sProd f N n S T p = none := by
  unfold sProd
  rw [bad_part h]
  rfl
theorem bad_sum {f : Nat → Int} {N n p : Nat} {S : PT} {T : St} (h : tKind f N p = 4) : sSum f N n S T p = none := by
  unfold sSum
  rw [bad_prod h]
  rfl
abbrev nmul (f : Nat → Int) (N e : Nat) : Prop := ¬ tsg f N e 47 ∧ ¬ tsg f N e 37 ∧ ¬ tsg f N e 42
theorem tsg_ne {f : Nat → Int} {N p : Nat} {c d : Int} (h : tsg f N p c) (ne : c ≠ d) : ¬ tsg f N p d := fun g => ne (h.2.symm.trans g.2)
theorem Sim_prodL {f : Nat → Int} {N b n : Nat} {u : St} {o : Int} {S : PT} (hn : (n : Int) + o = 8) (hS : 0 < n → SimS f N b u (o + 1) S) {D : Nat} (h1 : 1 ≤ D) : ∀ (k : Nat) (A T : St) (p : Nat), MS f N b p A → RN u A → A 0 57 = 1 → A 0 53 = (D : Int) → A 0 54 = o → A 36 (D - 1) < 2 → A 37 (D - 1) = 0 → T 19 2 ≤ (p : Int) → 1 ≤ p → N < k + p → Out f N b u D A T p p (nmul f N) (sProdL f N n S k T p) := by
  intro k
  induction k with
  | zero =>
    intro A T p h _ _ _ _ _ _ _ _ hN
    have := h.le
    omega
  | succ k ih =>
    intro A T p h hr h57 hD h54 hph h37 hT hp hN
    have tb := tEnd_b (f := f) h.le
    have N16 : N ≤ 1600 := h.1.2.1
    have turn : ∀ (c x : Int), tsg f N p c → tari f N p → Out f N b u D A T p p (nmul f N) ((sAd2 (sPart f N n S T (tEnd f N p)) x).bind fun a => sProdL f N n S k a.1 a.2) := by
      intro c x y ya
      have lt := tb.2.2.2 (by have := y.1; omega)
      rcases A_step h hr h57 hD h1 hph ya with ⟨f1, t4⟩ | ⟨v, sv, rv, v57, v53, v54, v35, v36, v37⟩
      · refine Or.inl ⟨f1, ?_⟩
        rw [bad_part t4]
        exact Or.inl rfl
      · have sp := Sim_part (T := T) (D := D) hn hS sv rv v57 (v53.trans hD) h1 (v54.trans h54) (fun g => absurd (by rw [v37]; exact h37) g.2) (by omega) (by omega)
        rcases sp with ⟨f1, bd⟩ | ⟨a, A', sa, ms, hr2, m57, tp, _, q, cd⟩
        · exact Or.inl ⟨f1, (Bad.ad2 bd).bd (fun a ha => bad_prodL ha k)⟩
        · rw [sa]
          obtain ⟨t, st, et⟩ := sAd2_ok (T := a.1) (e := a.2) (x := x) (by have := ms.le; omega)
          rw [show sAd2 (some a) x = some (t, a.2) from st]
          show Out f N b u D A T p p (nmul f N) (sProdL f N n S k t a.2)
          have tp' := tp.cg v53 v54 v35 v36 v37
          rcases ih A' t a.2 ms hr2 m57 (tp'.1.trans hD) (tp'.2.1.trans h54) (by rw [(tp'.2.2.1 (D - 1) (by omega)).2]; exact hph) tp'.2.2.2.2 (by omega) (by omega) (by omega) with ⟨f1, bd⟩ | ⟨c2, A2, sc, ms2, hr3, m572, tp2, X2, q2, cd2⟩
          · exact Or.inl ⟨f1, bd⟩
          · exact Or.inr ⟨c2, A2, sc, ms2, hr3, m572, tp'.trans tp2, X2, by omega, by omega⟩
    by_cases y47 : tsg f N p 47
    · have := turn 47 (-15) y47 (Or.inr (Or.inr (Or.inr (Or.inl y47))))
      unfold sProdL
      rw [sSign_pos y47]
      exact this
    · by_cases y37 : tsg f N p 37
      · have := turn 37 (-16) y37 (Or.inr (Or.inr (Or.inr (Or.inr y37))))
        unfold sProdL
        rw [sSign_neg y47, sSign_pos y37]
        exact this
      · by_cases y42 : tsg f N p 42
        · have := turn 42 (-14) y42 (Or.inr (Or.inr (Or.inl y42)))
          unfold sProdL
          rw [sSign_neg y47, sSign_neg y37, sSign_pos y42]
          exact this
        · unfold sProdL
          rw [sSign_neg y47, sSign_neg y37, sSign_neg y42]
          exact Or.inr ⟨(T, p), A, rfl, h, hr, h57, TP.rf h37, ⟨y47, y37, y42⟩, Nat.le_refl p, Int.le_refl _⟩
theorem Sim_prod {f : Nat → Int} {N b n : Nat} {u : St} {o : Int} {S : PT} (hn : (n : Int) + o = 8) (hS : 0 < n → SimS f N b u (o + 1) S) {A T : St} {p D : Nat} (h : MS f N b p A) (hr : RN u A) (h57 : A 0 57 = 0) (hD : A 0 53 = (D : Int)) (h1 : 1 ≤ D) (h54 : A 0 54 = o) (hpl : pln f N p D A) (hph : A 36 (D - 1) < 2) (hT : T 19 2 ≤ (p : Int)) (hp : 1 ≤ p) : Out f N b u D A T p (p + 1) (nmul f N) (sProd f N n S T p) := by
  have N16 : N ≤ 1600 := h.1.2.1
  unfold sProd
  rcases Sim_part hn hS h hr h57 hD h1 h54 hpl hT hp with ⟨f1, bd⟩ | ⟨a, A', sa, ms, hr2, m57, tp, _, q, cd⟩
  · exact Or.inl ⟨f1, bd.bd (fun a ha => bad_prodL ha _)⟩
  · rw [sa]
    show Out f N b u D A T p (p + 1) (nmul f N) (sProdL f N n S 1600 a.1 a.2)
    rcases Sim_prodL hn hS h1 1600 A' a.1 a.2 ms hr2 m57 (tp.1.trans hD) (tp.2.1.trans h54) (by rw [(tp.2.2.1 (D - 1) (by omega)).2]; exact hph) tp.2.2.2.2 (by omega) (by omega) (by omega) with ⟨f1, bd⟩ | ⟨c2, A2, sc, ms2, hr3, m572, tp2, X2, q2, cd2⟩
    · exact Or.inl ⟨f1, bd⟩
    · exact Or.inr ⟨c2, A2, sc, ms2, hr3, m572, tp.trans tp2, X2, by omega, by omega⟩
theorem Sim_sumL {f : Nat → Int} {N b n : Nat} {u : St} {o : Int} {S : PT} (hn : (n : Int) + o = 8) (hS : 0 < n → SimS f N b u (o + 1) S) {D : Nat} (h1 : 1 ≤ D) : ∀ (k : Nat) (A T : St) (p : Nat), MS f N b p A → RN u A → A 0 57 = 1 → A 0 53 = (D : Int) → A 0 54 = o → A 36 (D - 1) < 2 → A 37 (D - 1) = 0 → T 19 2 ≤ (p : Int) → 1 ≤ p → N < k + p → nmul f N p → Out f N b u D A T p p (fun e => ¬ tari f N e) (sSumL f N n S k T p) := by
  intro k
  induction k with
  | zero =>
    intro A T p h _ _ _ _ _ _ _ _ hN _
    have := h.le
    omega
  | succ k ih =>
    intro A T p h hr h57 hD h54 hph h37 hT hp hN hnm
    have tb := tEnd_b (f := f) h.le
    have N16 : N ≤ 1600 := h.1.2.1
    have turn : ∀ (c x : Int), tsg f N p c → tari f N p → Out f N b u D A T p p (fun e => ¬ tari f N e) ((sAd2 (sProd f N n S T (tEnd f N p)) x).bind fun a => sSumL f N n S k a.1 a.2) := by
      intro c x y ya
      have lt := tb.2.2.2 (by have := y.1; omega)
      rcases A_step h hr h57 hD h1 hph ya with ⟨f1, t4⟩ | ⟨v, sv, rv, v57, v53, v54, v35, v36, v37⟩
      · refine Or.inl ⟨f1, ?_⟩
        rw [bad_prod t4]
        exact Or.inl rfl
      · have sp := Sim_prod (T := T) (D := D) hn hS sv rv v57 (v53.trans hD) h1 (v54.trans h54) (fun g => absurd (by rw [v37]; exact h37) g.2) (by rw [v36]; exact hph) (by omega) (by omega)
        rcases sp with ⟨f1, bd⟩ | ⟨a, A', sa, ms, hr2, m57, tp, X1, q, cd⟩
        · exact Or.inl ⟨f1, (Bad.ad2 bd).bd (fun a ha => bad_sumL ha k)⟩
        · rw [sa]
          obtain ⟨t, st, et⟩ := sAd2_ok (T := a.1) (e := a.2) (x := x) (by have := ms.le; omega)
          rw [show sAd2 (some a) x = some (t, a.2) from st]
          show Out f N b u D A T p p (fun e => ¬ tari f N e) (sSumL f N n S k t a.2)
          have tp' := tp.cg v53 v54 v35 v36 v37
          rcases ih A' t a.2 ms hr2 m57 (tp'.1.trans hD) (tp'.2.1.trans h54) (by rw [(tp'.2.2.1 (D - 1) (by omega)).2]; exact hph) tp'.2.2.2.2 (by omega) (by omega) (by omega) X1 with ⟨f1, bd⟩ | ⟨c2, A2, sc, ms2, hr3, m572, tp2, X2, q2, cd2⟩
          · exact Or.inl ⟨f1, bd⟩
          · exact Or.inr ⟨c2, A2, sc, ms2, hr3, m572, tp'.trans tp2, X2, by omega, by omega⟩
    by_cases y45 : tsg f N p 45
    · have := turn 45 (-13) y45 (Or.inr (Or.inl y45))
      unfold sSumL
      rw [sSign_pos y45]
      exact this
    · by_cases y43 : tsg f N p 43
      · have := turn 43 (-12) y43 (Or.inl y43)
        unfold sSumL
        rw [sSign_neg y45, sSign_pos y43]
        exact this
      · unfold sSumL
        rw [sSign_neg y45, sSign_neg y43]
        refine Or.inr ⟨(T, p), A, rfl, h, hr, h57, TP.rf h37, ?_, Nat.le_refl p, Int.le_refl _⟩
        rintro (g | g | g | g | g)
        · exact y43 g
        · exact y45 g
        · exact hnm.2.2 g
        · exact hnm.1 g
        · exact hnm.2.1 g
theorem Sim_sum {f : Nat → Int} {N b n : Nat} {u : St} {o : Int} {S : PT} (hn : (n : Int) + o = 8) (hS : 0 < n → SimS f N b u (o + 1) S) : SimS f N b u o (sSum f N n S) := by
  refine ⟨fun T p h => bad_sum h, ?_⟩
  intro A T p D h hr h57 hD h1 h54 hpl hph hT hp
  have N16 : N ≤ 1600 := h.1.2.1
  unfold sSum
  rcases Sim_prod hn hS h hr h57 hD h1 h54 hpl hph hT hp with ⟨f1, bd⟩ | ⟨a, A', sa, ms, hr2, m57, tp, X1, q, cd⟩
  · exact Or.inl ⟨f1, bd.bd (fun a ha => bad_sumL ha _)⟩
  · rw [sa]
    show Out f N b u D A T p (p + 1) (fun e => ¬ tari f N e) (sSumL f N n S 1600 a.1 a.2)
    rcases Sim_sumL hn hS h1 1600 A' a.1 a.2 ms hr2 m57 (tp.1.trans hD) (tp.2.1.trans h54) (by rw [(tp.2.2.1 (D - 1) (by omega)).2]; exact hph) tp.2.2.2.2 (by omega) (by omega) (by omega) X1 with ⟨f1, bd⟩ | ⟨c2, A2, sc, ms2, hr3, m572, tp2, X2, q2, cd2⟩
    · exact Or.inl ⟨f1, bd⟩
    · exact Or.inr ⟨c2, A2, sc, ms2, hr3, m572, tp.trans tp2, X2, by omega, by omega⟩
theorem Sim_sumN {f : Nat → Int} {N b : Nat} {u : St} : ∀ n : Nat, SimS f N b u (8 - (n : Int)) (sSumN f N n)
  | 0 => Sim_sum (n := 0) (by omega) (fun h => absurd h (by omega))
  | n + 1 => Sim_sum (n := n + 1) (by omega) (fun _ => by
    have := Sim_sumN (f := f) (N := N) (b := b) (u := u) n
    rw [show 8 - ((n + 1 : Nat) : Int) + 1 = 8 - (n : Int) by omega]
    exact this)
/-! The reference's facts against the class's. -/
def TQ (D : Nat) (A A' : St) : Prop := A' 0 53 = A 0 53 ∧ A' 0 54 = A 0 54 ∧ (∀ i, i < D → A' 35 i = A 35 i) ∧ ∀ i, i + 1 < D → A' 36 i = A 36 i ∧ A' 37 i = A 37 i
theorem TQ.rf {D : Nat} {A : St} : TQ D A A := ⟨rfl, rfl, fun _ _ => rfl, fun _ _ => ⟨rfl, rfl⟩⟩
theorem TQ.trans {D : Nat} {A B C : St} (h : TQ D A B) (g : TQ D B C) : TQ D A C := ⟨g.1.trans h.1, g.2.1.trans h.2.1, fun i hi => (g.2.2.1 i hi).trans (h.2.2.1 i hi), fun i hi => ⟨(g.2.2.2 i hi).1.trans (h.2.2.2 i hi).1, (g.2.2.2 i hi).2.trans (h.2.2.2 i hi).2⟩⟩
def OutF (f : Nat → Int) (N b : Nat) (u : St) (D : Nat) (A T : St) (p q : Nat) (X : Nat → Prop) (r : Option (St × Nat)) : Prop := (1 ≤ u 0 8 ∧ Bad f N r) ∨ (∃ a A', r = some a ∧ MS f N b a.2 A' ∧ RN u A' ∧ A' 0 57 = 1 ∧ TQ D A A' ∧ A' 37 (D - 1) = 0 ∧ ¬ A' 36 (D - 1) = 0 ∧ (A' 36 (D - 1) < 2 → ¬ tari f N a.2) ∧ X a.2 ∧ q ≤ a.2 ∧ a.1 19 2 + (p : Int) ≤ T 19 2 + (a.2 : Int))
abbrev nao (f : Nat → Int) (N e : Nat) : Prop := ¬ tow f N e 17 ∧ ¬ tow f N e 16
def SimT (f : Nat → Int) (N b : Nat) (u : St) (o : Int) (S : PT) : Prop := (∀ T p, tKind f N p = 4 → S T p = none) ∧ ∀ (A T : St) (p D : Nat), MS f N b p A → RN u A → A 0 57 = 0 → A 0 53 = (D : Int) → 1 ≤ D → A 0 54 = o → (A 35 (D - 1) = 1 ∨ A 35 (D - 1) = 5) → ¬ A 37 (D - 1) = 0 → A 36 (D - 1) = 0 → T 19 2 ≤ (p : Int) → 1 ≤ p → OutF f N b u D A T p (p + 1) (nao f N) (S T p)
theorem sCmp_pos {f : Nat → Int} {N p : Nat} (h : tcmp f N p) : ∃ c, sCmp f N p = some (c, tEnd f N p) := by
  unfold sCmp
  rcases h with h | h | h
  · exact ⟨-9, by rw [sSign_pos h]⟩
  · refine ⟨-10, ?_⟩
    rw [sSign_neg (tsg_ne h (by decide)), sSign_pos h]
  · refine ⟨-11, ?_⟩
    rw [sSign_neg (tsg_ne h (by decide)), sSign_neg (tsg_ne h (by decide)), sSign_pos h]
theorem sCmp_neg {f : Nat → Int} {N p : Nat} (h : ¬ tcmp f N p) : sCmp f N p = none := by
  unfold sCmp
  rw [sSign_neg (fun g => h (Or.inl g)), sSign_neg (fun g => h (Or.inr (Or.inl g))), sSign_neg (fun g => h (Or.inr (Or.inr g)))]
theorem bad_cmp {f : Nat → Int} {N p : Nat} (h : tKind f N p = 4) : sCmp f N p = none := sCmp_neg (fun g => by rcases g with g | g | g <;> · have := g.1; omega)
theorem bad_factB {f : Nat → Int} {N n p : Nat} {S S2 : PT} {T : St} (hS : ∀ T p, tKind f N p = 4 → S T p = none) (h : tKind f N p = 4) : sFactB f N n S S2 T p = none := by
  unfold sFactB
  rw [bad_own h, bad_sign h]
  show ((S T p).bind _) = none
  rw [hS T p h]
  rfl
theorem Sim_factB {f : Nat → Int} {N b n : Nat} {u : St} {o : Int} {S S2 : PT} (hn : (n : Int) + o = 8) (hS : SimS f N b u o S) (hS2 : 0 < n → SimT f N b u (o + 1) S2) {A T : St} {p D : Nat} (h : MS f N b p A) (hr : RN u A) (h57 : A 0 57 = 0) (hD : A 0 53 = (D : Int)) (h1 : 1 ≤ D) (h54 : A 0 54 = o) (hk : A 35 (D - 1) = 1 ∨ A 35 (D - 1) = 5) (h37 : ¬ A 37 (D - 1) = 0) (h36 : A 36 (D - 1) = 0) (n18 : ¬ tow f N p 18) (hT : T 19 2 ≤ (p : Int)) (hp : 1 ≤ p) : OutF f N b u D A T p (p + 1) (fun _ => True) (sFactB f N n S S2 T p) := by
  have tb := tEnd_b (f := f) h.le
  have N16 : N ≤ 1600 := h.1.2.1
  have s49 : MS f N b p (stA A 37 (D - 1) 0) := h.fr rfl (fun _ _ => rfl)
  have fs : fst1 D A := ⟨hk, h37⟩
  by_cases y19 : tow f N p 19
  · obtain ⟨z, B, hq, h2⟩ := RN_op hr h57
    have lt := tb.2.2.2 (by have := y19.1; omega)
    unfold sFactB
    rw [sOwn_pos y19]
    obtain ⟨t, st, et⟩ := sAd2_ok (T := T) (e := tEnd f N p) (x := -5) (by omega)
    show OutF f N b u D A T p (p + 1) (fun _ => True) (sAd2 (some (T, tEnd f N p)) (-5))
    rw [st]
    rcases O_base h hD h1 hq with ⟨_, g, _⟩ | ⟨_, g, _⟩ | ⟨_, _, hz, a1, a2, a3, a4, a5, a6, a7⟩ | ⟨g, _⟩
    · exact absurd g n18
    · exact absurd g (tow_sg y19)
    · rcases h2 with ⟨c, e⟩ | ⟨c, hr2⟩
      · have g := a1.ff c
        exact Or.inl ⟨by rw [e]; exact g.2, Or.inr ⟨_, rfl, g.1⟩⟩
      · have r36 : stA B 0 57 z 36 = up (A 36) (D - 1) 2 := a6
        have r37 : stA B 0 57 z 37 = up (A 37) (D - 1) 0 := a7
        have r35 : stA B 0 57 z 35 = A 35 := a5
        refine Or.inr ⟨(t, tEnd f N p), stA B 0 57 z, rfl, (a1.nf c).fr rfl (fun k hk => st0_k (by decide) (by decide) hk), hr2, hz, ⟨a2, a3, fun i hi => by rw [r35], fun i hi => ?_⟩, by rw [r37, up_same], by rw [r36, up_same]; decide, fun g => ?_, trivial, by show p + 1 ≤ tEnd f N p; omega, by show t 19 2 + (p : Int) ≤ T 19 2 + (tEnd f N p : Int); omega⟩
        · rw [r36, r37, up_ne _ _ (by omega), up_ne _ _ (by omega)]
          exact ⟨rfl, rfl⟩
        · rw [r36, up_same] at g
          exact absurd g (by decide)
    · exact absurd y19 (g fs).2.2
  · by_cases y91 : tsg f N p 91
    · obtain ⟨z, B, hq, h2⟩ := RN_op hr h57
      have lt := tb.2.2.2 (by have := y91.1; omega)
      unfold sFactB
      rw [sOwn_neg y19, sSign_pos y91]
      show OutF f N b u D A T p (p + 1) (fun _ => True) (if n = 0 then none else (S2 T (tEnd f N p)).bind fun a => (sSign f N 93 a.2).bind fun p2 => some (a.1, p2))
      rcases O_base h hD h1 hq with ⟨_, g, _⟩ | ⟨_, _, hz, ho⟩ | ⟨_, g, _⟩ | ⟨g, _⟩
      · exact absurd y91 (tow_sg g)
      · have e57 : stA A 37 (D - 1) 0 0 57 = 0 := h57
        have e54 : stA A 37 (D - 1) 0 0 54 = o := h54
        rcases O_opens s49 hD ho with ⟨o8, f1⟩ | ⟨o8, op⟩
        · have o8 : o = 8 := by rw [← e54]; exact o8
          rw [if_pos (by omega)]
          refine Or.inl ⟨?_, Or.inl rfl⟩
          rcases h2 with ⟨_, e⟩ | ⟨c, _⟩
          · rw [e]; exact f1
          · omega
        · rw [e54] at o8
          rw [e54, e57] at op
          rw [if_neg (by omega)]
          have hS2 := hS2 (by omega)
          rcases h2 with ⟨c, e⟩ | ⟨c, hr2⟩
          · have g := op.1.ff c
            refine Or.inl ⟨by rw [e]; exact g.2, Or.inl ?_⟩
            rw [hS2.1 T _ g.1]
            rfl
          · have hop : OP f N b (tEnd f N p) D o 0 5 (stA A 37 (D - 1) 0) (stA B 0 57 z) := by
              obtain ⟨a1, a2, a3, a4, a5, a6, a7⟩ := op
              exact ⟨a1.fr rfl (fun k hk => st0_k (by decide) (by decide) hk), a2, a3, hz, a5, a6, a7⟩
            obtain ⟨B1, eB1⟩ : ∃ B1, B1 = stA B 0 57 z := ⟨_, rfl⟩
            have c1 : B1 0 8 = 0 := by rw [eB1]; exact c
            rw [← eB1] at hop hr2
            obtain ⟨a1, a2, a3, a4, a5, a6, a7⟩ := hop
            have ed : D + 1 - 1 = D := by omega
            have sd := hS2.2 B1 T (tEnd f N p) (D + 1) (a1.nf c1) hr2 a4 (by rw [a2]; rfl) (by omega) a3 (Or.inr (by rw [a5, ed, up_same])) (by rw [a7, ed, up_same]; decide) (by rw [a6, ed, up_same]) (by omega) (by omega)
            rcases sd with ⟨f1, bd⟩ | ⟨a, A2, sa, ms, hr3, m57, tq, m37, m36, m36t, na, q, cd⟩
            · exact Or.inl ⟨f1, bd.bd (fun c hc => by rw [bad_sign hc]; exact Or.inl rfl)⟩
            · rw [sa]
              show OutF f N b u D A T p (p + 1) (fun _ => True) ((sSign f N 93 a.2).bind fun p2 => some (a.1, p2))
              rw [ed] at m37 m36 m36t
              have tb2 := tEnd_b (f := f) ms.le
              have d2 : A2 0 53 = ((D + 1 : Nat) : Int) := by rw [tq.1, a2]; rfl
              have k5 : A2 35 D = 5 := by rw [tq.2.2.1 D (by omega), a5, up_same]
              obtain ⟨z3, C, hg, h3⟩ := RN_go hr3 (by rw [m57]; decide)
              have g8 : d_X12_goesOn_8 A2 z3 C 5 A2 := by
                rcases G_base (D := D + 1) ms d2 (by omega) hg with ⟨g1, g2, _⟩ | ⟨_, z2, hz2, g2⟩
                · rw [ed] at g1
                  exact absurd g2 (m36t g1)
                · rw [ed, k5] at hz2 g2
                  have e2 : z2 = 1 := by
                    rcases hz2 with ⟨g, _⟩ | ⟨_, g⟩
                    · exact g
                    · exact absurd (Or.inr rfl) g
                  rcases G_cmp (D := D + 1) ms d2 (by omega) (Or.inl e2) g2 with ⟨_, g, _⟩ | ⟨_, g2⟩
                  · rw [ed] at g; exact absurd g m36
                  · rcases G_andor (D := D + 1) ms d2 (by omega) (Or.inl e2) g2 with ⟨_, g, _⟩ | ⟨_, g2⟩
                    · rcases g with g | g
                      · exact absurd g na.1
                      · exact absurd g na.2
                    · rcases G_end (D := D + 1) ms d2 (by omega) (Or.inl e2) g2 with ⟨_, g, _⟩ | ⟨_, g2⟩
                      · rw [ed] at g; exact absurd g m36
                      · exact g2
              rcases G_kc (x := 93) (D := D + 1) (Or.inr (Or.inr ⟨rfl, rfl⟩)) ms d2 (by omega) g8 with ⟨n93, hz3, f1⟩ | ⟨y93, hz3, mo, c53, c54, c57, c35, c36, c37⟩
              · refine Or.inl ⟨?_, Or.inl (by rw [sSign_neg n93]; rfl)⟩
                rcases h3 with ⟨_, e⟩ | ⟨c, _⟩ | ⟨c, _⟩
                · rw [e]; exact f1
                · exact absurd hz3 c
                · exact absurd hz3 c
              · rw [sSign_pos y93]
                have nz : ¬ z3 = 0 := by rw [hz3]; decide
                rcases h3 with ⟨c, _⟩ | ⟨_, c8, e⟩ | ⟨_, c8, hr4⟩
                · exact absurd c nz
                · have g := mo.ff c8
                  exact Or.inl ⟨by rw [e]; exact g.2, Or.inr ⟨_, rfl, g.1⟩⟩
                · rw [if_pos rfl, show D + 1 - 2 = D - 1 by omega] at c36
                  refine Or.inr ⟨(a.1, tEnd f N a.2), C, rfl, mo.nf c8, hr4, c57.trans m57, ⟨?_, ?_, fun i hi => ?_, fun i hi => ?_⟩, ?_, by rw [c36, up_same]; decide, fun g => ?_, trivial, by show p + 1 ≤ tEnd f N a.2; omega, by show a.1 19 2 + (p : Int) ≤ T 19 2 + (tEnd f N a.2 : Int); omega⟩
                  · rw [c53, hD]
                    show ((D + 1 : Nat) : Int) - 1 = (D : Int)
                    omega
                  · rw [c54, tq.2.1, a3, h54]; omega
                  · rw [c35, tq.2.2.1 i (by omega), a5, up_lt hi]
                    rfl
                  · have t := tq.2.2.2 i (by omega)
                    rw [c36, c37, up_ne _ _ (by omega), t.1, t.2, a6, a7, up_lt (by omega), up_lt (by omega)]
                    refine ⟨rfl, ?_⟩
                    show up (A 37) (D - 1) 0 i = A 37 i
                    rw [up_ne _ _ (by omega)]
                  · have t := tq.2.2.2 (D - 1) (by omega)
                    rw [c37, t.2, a7, up_lt (by omega)]
                    show up (A 37) (D - 1) 0 (D - 1) = 0
                    rw [up_same]
                  · rw [c36, up_same] at g
                    exact absurd g (by decide)
      · exact absurd y91 (tow_sg g)
      · exact absurd y91 (g fs).2.1
    · unfold sFactB
      rw [sOwn_neg y19, sSign_neg y91]
      show OutF f N b u D A T p (p + 1) (fun _ => True) ((S T p).bind fun a => (sCmp f N a.2).bind fun c => sAd2 (S a.1 c.2) c.1)
      rcases hS.2 A T p D h hr h57 hD h1 h54 (fun _ => ⟨n18, y91, y19⟩) (by rw [h36]; decide) hT hp with ⟨f1, bd⟩ | ⟨a, A1, sa, ms, hr2, m57, tp, na, q, cd⟩
      · exact Or.inl ⟨f1, bd.bd (fun a ha => by rw [bad_cmp ha]; exact Or.inl rfl)⟩
      · rw [sa]
        show OutF f N b u D A T p (p + 1) (fun _ => True) ((sCmp f N a.2).bind fun c => sAd2 (S a.1 c.2) c.1)
        have tb2 := tEnd_b (f := f) ms.le
        have d2 : A1 0 53 = (D : Int) := tp.1.trans hD
        have k1 : A1 35 (D - 1) = A 35 (D - 1) := (tp.2.2.1 (D - 1) (by omega)).1
        have p1 : A1 36 (D - 1) = 0 := (tp.2.2.1 (D - 1) (by omega)).2.trans h36
        obtain ⟨z3, v, hg, h3⟩ := RN_go hr2 (by rw [m57]; decide)
        rcases G_base ms d2 h1 hg with ⟨_, g2, _⟩ | ⟨_, z2, hz2, g2⟩
        · exact absurd g2 na
        · have e2 : z2 = 1 := by
            rw [k1] at hz2
            rcases hz2 with ⟨g, _⟩ | ⟨_, g⟩
            · exact g
            · exact absurd hk g
          rcases G_cmp ms d2 h1 (Or.inl e2) g2 with ⟨_, _, yc, hz3, Bc, eBc, c1, c2, c3, c4, c5, c6, c7⟩ | ⟨g, g2⟩
          · obtain ⟨cc, sc⟩ := sCmp_pos yc
            rw [sc]
            show OutF f N b u D A T p (p + 1) (fun _ => True) (sAd2 (S a.1 (tEnd f N a.2)) cc)
            have nz : ¬ z3 = 0 := by rw [hz3]; decide
            have lt2 := tb2.2.2.2 (by rcases yc with g | g | g <;> · have := g.1; omega)
            rcases h3 with ⟨c, _⟩ | ⟨_, c8, e⟩ | ⟨_, c8, hr4⟩
            · exact absurd c nz
            · have g := c1.ff c8
              refine Or.inl ⟨by rw [e]; exact g.2, Bad.ad2 (Or.inl ?_)⟩
              exact hS.1 _ _ g.1
            · have v36 : v 36 = up (A1 36) (D - 1) 1 := by rw [c6, eBc]; rfl
              have v37 : v 37 = A1 37 := by rw [c7, eBc]; rfl
              have v35 : v 35 = A1 35 := by rw [c5, eBc]; rfl
              have v53 : v 0 53 = A1 0 53 := by rw [c2, eBc]; rfl
              have v54 : v 0 54 = A1 0 54 := by rw [c3, eBc]; rfl
              rcases hS.2 v a.1 (tEnd f N a.2) D (c1.nf c8) hr4 c4 (v53.trans d2) h1 (v54.trans (tp.2.1.trans h54)) (fun g => absurd (by rw [v37]; exact tp.2.2.2.2) g.2) (by rw [v36, up_same]; decide) (by omega) (by omega) with ⟨f1, bd⟩ | ⟨b2, A3, sb2, ms3, hr5, m573, tp3, na3, q3, cd3⟩
              · exact Or.inl ⟨f1, Bad.ad2 bd⟩
              · rw [sb2]
                obtain ⟨t, st, et⟩ := sAd2_ok (T := b2.1) (e := b2.2) (x := cc) (by have := ms3.le; omega)
                rw [show sAd2 (some b2) cc = some (t, b2.2) from st]
                have t3 := tp3.2.2.1 (D - 1) (by omega)
                refine Or.inr ⟨(t, b2.2), A3, rfl, ms3, hr5, m573, ⟨?_, ?_, fun i hi => ?_, fun i hi => ?_⟩, tp3.2.2.2.2, by rw [t3.2, v36, up_same]; decide, fun _ => na3, trivial, by show p + 1 ≤ b2.2; omega, by show t 19 2 + (p : Int) ≤ T 19 2 + (b2.2 : Int); omega⟩
                · rw [tp3.1, v53, tp.1]
                · rw [tp3.2.1, v54, tp.2.1]
                · rw [(tp3.2.2.1 i hi).1, v35, (tp.2.2.1 i hi).1]
                · rw [(tp3.2.2.1 i (by omega)).2, tp3.2.2.2.1 i hi, v36, v37, up_ne _ _ (by omega), (tp.2.2.1 i (by omega)).2, tp.2.2.2.1 i hi]
                  exact ⟨rfl, rfl⟩
          · have nc : ¬ tcmp f N a.2 := fun y => g ⟨e2, p1, y⟩
            rw [sCmp_neg nc]
            refine Or.inl ⟨?_, Or.inl rfl⟩
            have fz : z3 = 0 ∧ 1 ≤ v 0 8 := by
              rcases G_andor ms d2 h1 (Or.inl e2) g2 with ⟨_, _, g⟩ | ⟨_, g2⟩
              · rcases g with ⟨_, g⟩ | ⟨g, _⟩
                · exact g
                · exact absurd p1 g
              · rcases G_end ms d2 h1 (Or.inl e2) g2 with ⟨_, _, g⟩ | ⟨g, _⟩
                · exact g
                · exact absurd ⟨e2, p1⟩ g
            rcases h3 with ⟨_, e⟩ | ⟨c, _⟩ | ⟨c, _⟩
            · rw [e]; exact fz.2
            · exact absurd fz.1 c
            · exact absurd fz.1 c
/-! The reference's tests against the class's. -/
theorem sNots_le {f : Nat → Int} {N : Nat} : ∀ (k : Nat) (t : Int) (p : Nat), p ≤ N → p ≤ (sNots f N k t p).2 ∧ ((sNots f N k t p).1 ≠ t → p < (sNots f N k t p).2) := by
  intro k
  induction k with
  | zero => intro t p _; exact ⟨Nat.le_refl p, fun g => absurd rfl g⟩
  | succ k ih =>
    intro t p hp
    by_cases y : tow f N p 18
    · have e : sNots f N (k + 1) t p = sNots f N k (if t = 0 then 1 else 0) (tEnd f N p) := by
        show (match sOwn f N 18 p with | some e => sNots f N k (if t = 0 then 1 else 0) e | none => (t, p)) = _
        rw [sOwn_pos y]
      have tb := tEnd_b (f := f) hp
      have lt := tb.2.2.2 (by have := y.1; omega)
      have := ih (if t = 0 then 1 else 0) (tEnd f N p) tb.2.2.1
      rw [e]
      exact ⟨by omega, fun _ => by omega⟩
    · have e : sNots f N (k + 1) t p = (t, p) := by
        show (match sOwn f N 18 p with | some e => sNots f N k (if t = 0 then 1 else 0) e | none => (t, p)) = _
        rw [sOwn_neg y]
      rw [e]
      exact ⟨Nat.le_refl p, fun g => absurd rfl g⟩
theorem sNots_bad {f : Nat → Int} {N p : Nat} {t : Int} (h : tKind f N p = 4) : ∀ k, sNots f N k t p = (t, p)
  | 0 => rfl
  | k + 1 => by
    show (match sOwn f N 18 p with | some e => sNots f N k (if t = 0 then 1 else 0) e | none => (t, p)) = _
    rw [bad_own h]
theorem Sim_nots {f : Nat → Int} {N b D : Nat} {u : St} (h1 : 1 ≤ D) : ∀ (k : Nat) (A : St) (p : Nat) (t : Int), MS f N b p A → RN u A → A 0 57 = 0 → A 0 53 = (D : Int) → (A 35 (D - 1) = 1 ∨ A 35 (D - 1) = 5) → ¬ A 37 (D - 1) = 0 → N < k + p → (1 ≤ u 0 8 ∧ tKind f N (sNots f N k t p).2 = 4) ∨ (∃ A', MS f N b (sNots f N k t p).2 A' ∧ RN u A' ∧ A' 0 57 = 0 ∧ A' 0 53 = A 0 53 ∧ A' 0 54 = A 0 54 ∧ A' 35 = A 35 ∧ A' 36 = A 36 ∧ A' 37 = A 37 ∧ ¬ tow f N (sNots f N k t p).2 18) := by
  intro k
  induction k with
  | zero =>
    intro A p t h _ _ _ _ _ hN
    have := h.le
    omega
  | succ k ih =>
    intro A p t h hr h57 hD hk h37 hN
    have tb := tEnd_b (f := f) h.le
    by_cases y : tow f N p 18
    · have e : sNots f N (k + 1) t p = sNots f N k (if t = 0 then 1 else 0) (tEnd f N p) := by
        show (match sOwn f N 18 p with | some e => sNots f N k (if t = 0 then 1 else 0) e | none => (t, p)) = _
        rw [sOwn_pos y]
      have lt := tb.2.2.2 (by have := y.1; omega)
      rw [e]
      obtain ⟨z, B, hq, h2⟩ := RN_op hr h57
      rcases O_base h hD h1 hq with ⟨_, _, hz, a1, a2, a3, a4, a5, a6, a7⟩ | ⟨_, g, _⟩ | ⟨_, g, _⟩ | ⟨g, _⟩
      · rcases h2 with ⟨c, e2⟩ | ⟨c, hr2⟩
        · have g := a1.ff c
          refine Or.inl ⟨by rw [e2]; exact g.2, ?_⟩
          rw [sNots_bad g.1]
          exact g.1
        · have r35 : stA B 0 57 z 35 = A 35 := a5
          have r36 : stA B 0 57 z 36 = A 36 := a6
          have r37 : stA B 0 57 z 37 = A 37 := a7
          rcases ih (stA B 0 57 z) (tEnd f N p) (if t = 0 then 1 else 0) ((a1.nf c).fr rfl (fun k hk => st0_k (by decide) (by decide) hk)) hr2 hz (a2.trans hD) (by rw [r35]; exact hk) (by rw [r37]; exact h37) (by omega) with g | ⟨A', b1, b2, b3, b4, b5, b6, b7, b8, b9⟩
          · exact Or.inl g
          · exact Or.inr ⟨A', b1, b2, b3, b4.trans a2, b5.trans a3, b6.trans r35, b7.trans r36, b8.trans r37, b9⟩
      · exact absurd g (tow_sg y)
      · exact absurd g (tow_ne y (by decide) (by decide) (by decide))
      · exact absurd y (g ⟨hk, h37⟩).1
    · have e : sNots f N (k + 1) t p = (t, p) := by
        show (match sOwn f N 18 p with | some e => sNots f N k (if t = 0 then 1 else 0) e | none => (t, p)) = _
        rw [sOwn_neg y]
      rw [e]
      exact Or.inr ⟨A, h, hr, h57, rfl, rfl, rfl, rfl, rfl, y⟩
theorem bad_fact {f : Nat → Int} {N n p : Nat} {S S2 : PT} {T : St} (hS : ∀ T p, tKind f N p = 4 → S T p = none) (h : tKind f N p = 4) : sFact f N n S S2 T p = none := by
  unfold sFact
  rw [sNots_bad h, bad_factB hS h]
  rfl
theorem Sim_fact {f : Nat → Int} {N b n : Nat} {u : St} {o : Int} {S S2 : PT} (hn : (n : Int) + o = 8) (hS : SimS f N b u o S) (hS2 : 0 < n → SimT f N b u (o + 1) S2) {A T : St} {p D : Nat} (h : MS f N b p A) (hr : RN u A) (h57 : A 0 57 = 0) (hD : A 0 53 = (D : Int)) (h1 : 1 ≤ D) (h54 : A 0 54 = o) (hk : A 35 (D - 1) = 1 ∨ A 35 (D - 1) = 5) (h37 : ¬ A 37 (D - 1) = 0) (h36 : A 36 (D - 1) = 0) (hT : T 19 2 ≤ (p : Int)) (hp : 1 ≤ p) : OutF f N b u D A T p (p + 1) (fun _ => True) (sFact f N n S S2 T p) := by
  have N16 : N ≤ 1600 := h.1.2.1
  have nl := sNots_le (f := f) 1600 0 p h.le
  unfold sFact
  rcases Sim_nots h1 1600 A p 0 h hr h57 hD hk h37 (by omega) with ⟨f1, t4⟩ | ⟨A', b1, b2, b3, b4, b5, b6, b7, b8, b9⟩
  · refine Or.inl ⟨f1, ?_⟩
    rw [bad_factB hS.1 t4]
    exact Or.inl rfl
  · rcases Sim_factB (T := T) hn hS hS2 b1 b2 b3 (b4.trans hD) h1 (b5.trans h54) (by rw [b6]; exact hk) (by rw [b8]; exact h37) (by rw [b7]; exact h36) b9 (by omega) (by omega) with ⟨f1, bd⟩ | ⟨a, A2, sa, ms, hr2, m57, tq, m37, m36, m36t, _, q, cd⟩
    · refine Or.inl ⟨f1, bd.bd (fun a ha => ?_)⟩
      by_cases g : (sNots f N 1600 0 p).1 = 0
      · rw [if_pos g]; exact bad_some ha
      · rw [if_neg g]; exact Bad.ad2 (bad_some ha)
    · rw [sa]
      show OutF f N b u D A T p (p + 1) (fun _ => True) (if (sNots f N 1600 0 p).1 = 0 then some a else sAd2 (some a) (-6))
      have tq' : TQ D A A2 := by
        unfold TQ
        rw [← b4, ← b5, ← b6, ← b7, ← b8]
        exact tq
      by_cases g : (sNots f N 1600 0 p).1 = 0
      · rw [if_pos g]
        exact Or.inr ⟨a, A2, rfl, ms, hr2, m57, tq', m37, m36, m36t, trivial, by omega, by omega⟩
      · rw [if_neg g]
        have l2 := nl.2 g
        obtain ⟨t, st, et⟩ := sAd2_ok (T := a.1) (e := a.2) (x := -6) (by have := ms.le; omega)
        rw [show sAd2 (some a) (-6) = some (t, a.2) from st]
        exact Or.inr ⟨(t, a.2), A2, rfl, ms, hr2, m57, tq', m37, m36, m36t, trivial, by show p + 1 ≤ a.2; omega, by show t 19 2 + (p : Int) ≤ T 19 2 + (a.2 : Int); omega⟩
/-- and, or: the next fact begins -/
theorem W_step {f : Nat → Int} {N b p D : Nat} {u A : St} (h : MS f N b p A) (hr : RN u A) (h57 : A 0 57 = 1) (hD : A 0 53 = (D : Int)) (h1 : 1 ≤ D) (hk : A 35 (D - 1) = 1 ∨ A 35 (D - 1) = 5) (h36 : ¬ A 36 (D - 1) = 0) (hw : tow f N p 17 ∨ tow f N p 16) : (1 ≤ u 0 8 ∧ tKind f N (tEnd f N p) = 4) ∨ (∃ v, MS f N b (tEnd f N p) v ∧ RN u v ∧ v 0 57 = 0 ∧ TQ D A v ∧ ¬ v 37 (D - 1) = 0 ∧ v 36 (D - 1) = 0) := by
  obtain ⟨z, v, hg, h3⟩ := RN_go hr (by rw [h57]; decide)
  have tk : tKind f N p = 1 := by rcases hw with g | g <;> exact g.1
  rcases G_base h hD h1 hg with ⟨_, g, _⟩ | ⟨_, z2, hz2, g2⟩
  · rcases g with g | g | g | g | g <;> · have := g.1; omega
  · have e2 : z2 = 1 := by
      rcases hz2 with ⟨g, _⟩ | ⟨_, g⟩
      · exact g
      · exact absurd hk g
    rcases G_cmp h hD h1 (Or.inl e2) g2 with ⟨_, g, _⟩ | ⟨_, g2⟩
    · exact absurd g h36
    · rcases G_andor h hD h1 (Or.inl e2) g2 with ⟨_, _, g⟩ | ⟨g, _⟩
      · rcases g with ⟨g, _⟩ | ⟨_, hz, Bc, eBc, c1, c2, c3, c4, c5, c6, c7⟩
        · exact absurd g h36
        · have nz : ¬ z = 0 := by rw [hz]; decide
          rcases h3 with ⟨c, _⟩ | ⟨_, c8, e⟩ | ⟨_, c8, hr4⟩
          · exact absurd c nz
          · have g := c1.ff c8
            exact Or.inl ⟨by rw [e]; exact g.2, g.1⟩
          · have v36 : v 36 = up (A 36) (D - 1) 0 := by rw [c6, eBc]; rfl
            have v37 : v 37 = up (A 37) (D - 1) 1 := by rw [c7, eBc]; rfl
            have v35 : v 35 = A 35 := by rw [c5, eBc]; rfl
            refine Or.inr ⟨v, c1.nf c8, hr4, c4, ⟨by rw [c2, eBc]; rfl, by rw [c3, eBc]; rfl, fun i hi => by rw [v35], fun i hi => ?_⟩, by rw [v37, up_same]; decide, by rw [v36, up_same]⟩
            rw [v36, v37, up_ne _ _ (by omega), up_ne _ _ (by omega)]
            exact ⟨rfl, rfl⟩
      · exact absurd ⟨e2, hw⟩ g
theorem bad_bothL {f : Nat → Int} {N n p : Nat} {S S2 : PT} {T : St} (h : tKind f N p = 4) : ∀ k, Bad f N (sBothL f N n S S2 k T p)
  | 0 => Or.inr ⟨(T, p), rfl, h⟩
  | k + 1 => by
    unfold sBothL
    rw [bad_own h]
    exact Or.inr ⟨(T, p), rfl, h⟩
theorem bad_testL {f : Nat → Int} {N n p : Nat} {S S2 : PT} {T : St} (h : tKind f N p = 4) : ∀ k, Bad f N (sTestL f N n S S2 k T p)
  | 0 => Or.inr ⟨(T, p), rfl, h⟩
  | k + 1 => by
    unfold sTestL
    rw [bad_own h]
    exact Or.inr ⟨(T, p), rfl, h⟩
theorem bad_both {f : Nat → Int} {N n p : Nat} {S S2 : PT} {T : St} (hS : ∀ T p, tKind f N p = 4 → S T p = none) (h : tKind f N p = 4) : sBoth f N n S S2 T p = none := by
  unfold sBoth
  rw [bad_fact hS h]
  rfl
theorem bad_test {f : Nat → Int} {N n p : Nat} {S S2 : PT} {T : St} (hS : ∀ T p, tKind f N p = 4 → S T p = none) (h : tKind f N p = 4) : sTest f N n S S2 T p = none := by
  unfold sTest
  rw [bad_both hS h]
  rfl
theorem Sim_bothL {f : Nat → Int} {N b n : Nat} {u : St} {o : Int} {S S2 : PT} (hn : (n : Int) + o = 8) (hS : SimS f N b u o S) (hS2 : 0 < n → SimT f N b u (o + 1) S2) {D : Nat} (h1 : 1 ≤ D) : ∀ (k : Nat) (A T : St) (p : Nat), MS f N b p A → RN u A → A 0 57 = 1 → A 0 53 = (D : Int) → A 0 54 = o → (A 35 (D - 1) = 1 ∨ A 35 (D - 1) = 5) → A 37 (D - 1) = 0 → ¬ A 36 (D - 1) = 0 → (A 36 (D - 1) < 2 → ¬ tari f N p) → T 19 2 ≤ (p : Int) → 1 ≤ p → N < k + p → OutF f N b u D A T p p (fun e => ¬ tow f N e 17) (sBothL f N n S S2 k T p) := by
  intro k
  induction k with
  | zero =>
    intro A T p h _ _ _ _ _ _ _ _ _ _ hN
    have := h.le
    omega
  | succ k ih =>
    intro A T p h hr h57 hD h54 hk h37 h36 h36t hT hp hN
    have tb := tEnd_b (f := f) h.le
    have N16 : N ≤ 1600 := h.1.2.1
    by_cases y : tow f N p 17
    · have lt := tb.2.2.2 (by have := y.1; omega)
      unfold sBothL
      rw [sOwn_pos y]
      show OutF f N b u D A T p p (fun e => ¬ tow f N e 17) ((sAd2 (sFact f N n S S2 T (tEnd f N p)) (-8)).bind fun a => sBothL f N n S S2 k a.1 a.2)
      rcases W_step h hr h57 hD h1 hk h36 (Or.inl y) with ⟨f1, t4⟩ | ⟨v, sv, rv, v57, tqv, v37, v36⟩
      · refine Or.inl ⟨f1, ?_⟩
        rw [bad_fact hS.1 t4]
        exact Or.inl rfl
      · rcases Sim_fact (T := T) hn hS hS2 sv rv v57 (tqv.1.trans hD) h1 (tqv.2.1.trans h54) (by rw [tqv.2.2.1 (D - 1) (by omega)]; exact hk) v37 v36 (by omega) (by omega) with ⟨f1, bd⟩ | ⟨a, A', sa, ms, hr2, m57, tq, m37, m36, m36t, _, q, cd⟩
        · exact Or.inl ⟨f1, (Bad.ad2 bd).bd (fun a ha => bad_bothL ha k)⟩
        · rw [sa]
          obtain ⟨t, st, et⟩ := sAd2_ok (T := a.1) (e := a.2) (x := -8) (by have := ms.le; omega)
          rw [show sAd2 (some a) (-8) = some (t, a.2) from st]
          show OutF f N b u D A T p p (fun e => ¬ tow f N e 17) (sBothL f N n S S2 k t a.2)
          have tq' := tqv.trans tq
          rcases ih A' t a.2 ms hr2 m57 (tq'.1.trans hD) (tq'.2.1.trans h54) (by rw [tq'.2.2.1 (D - 1) (by omega)]; exact hk) m37 m36 m36t (by omega) (by omega) (by omega) with ⟨f1, bd⟩ | ⟨c2, A2, sc, ms2, hr3, m572, tq2, n37, n36, n36t, X2, q2, cd2⟩
          · exact Or.inl ⟨f1, bd⟩
          · exact Or.inr ⟨c2, A2, sc, ms2, hr3, m572, tq'.trans tq2, n37, n36, n36t, X2, by omega, by omega⟩
    · unfold sBothL
      rw [sOwn_neg y]
      exact Or.inr ⟨(T, p), A, rfl, h, hr, h57, TQ.rf, h37, h36, h36t, y, Nat.le_refl p, Int.le_refl _⟩
theorem Sim_both {f : Nat → Int} {N b n : Nat} {u : St} {o : Int} {S S2 : PT} (hn : (n : Int) + o = 8) (hS : SimS f N b u o S) (hS2 : 0 < n → SimT f N b u (o + 1) S2) {A T : St} {p D : Nat} (h : MS f N b p A) (hr : RN u A) (h57 : A 0 57 = 0) (hD : A 0 53 = (D : Int)) (h1 : 1 ≤ D) (h54 : A 0 54 = o) (hk : A 35 (D - 1) = 1 ∨ A 35 (D - 1) = 5) (h37 : ¬ A 37 (D - 1) = 0) (h36 : A 36 (D - 1) = 0) (hT : T 19 2 ≤ (p : Int)) (hp : 1 ≤ p) : OutF f N b u D A T p (p + 1) (fun e => ¬ tow f N e 17) (sBoth f N n S S2 T p) := by
  have N16 : N ≤ 1600 := h.1.2.1
  unfold sBoth
  rcases Sim_fact hn hS hS2 h hr h57 hD h1 h54 hk h37 h36 hT hp with ⟨f1, bd⟩ | ⟨a, A', sa, ms, hr2, m57, tq, m37, m36, m36t, _, q, cd⟩
  · exact Or.inl ⟨f1, bd.bd (fun a ha => bad_bothL ha _)⟩
  · rw [sa]
    show OutF f N b u D A T p (p + 1) (fun e => ¬ tow f N e 17) (sBothL f N n S S2 1600 a.1 a.2)
    rcases Sim_bothL hn hS hS2 h1 1600 A' a.1 a.2 ms hr2 m57 (tq.1.trans hD) (tq.2.1.trans h54) (by rw [tq.2.2.1 (D - 1) (by omega)]; exact hk) m37 m36 m36t (by omega) (by omega) (by omega) with ⟨f1, bd⟩ | ⟨c2, A2, sc, ms2, hr3, m572, tq2, n37, n36, n36t, X2, q2, cd2⟩
    · exact Or.inl ⟨f1, bd⟩
    · exact Or.inr ⟨c2, A2, sc, ms2, hr3, m572, tq.trans tq2, n37, n36, n36t, X2, by omega, by omega⟩
theorem Sim_testL {f : Nat → Int} {N b n : Nat} {u : St} {o : Int} {S S2 : PT} (hn : (n : Int) + o = 8) (hS : SimS f N b u o S) (hS2 : 0 < n → SimT f N b u (o + 1) S2) {D : Nat} (h1 : 1 ≤ D) : ∀ (k : Nat) (A T : St) (p : Nat), MS f N b p A → RN u A → A 0 57 = 1 → A 0 53 = (D : Int) → A 0 54 = o → (A 35 (D - 1) = 1 ∨ A 35 (D - 1) = 5) → A 37 (D - 1) = 0 → ¬ A 36 (D - 1) = 0 → (A 36 (D - 1) < 2 → ¬ tari f N p) → T 19 2 ≤ (p : Int) → 1 ≤ p → N < k + p → ¬ tow f N p 17 → OutF f N b u D A T p p (nao f N) (sTestL f N n S S2 k T p) := by
  intro k
  induction k with
  | zero =>
    intro A T p h _ _ _ _ _ _ _ _ _ _ hN _
    have := h.le
    omega
  | succ k ih =>
    intro A T p h hr h57 hD h54 hk h37 h36 h36t hT hp hN n17
    have tb := tEnd_b (f := f) h.le
    have N16 : N ≤ 1600 := h.1.2.1
    by_cases y : tow f N p 16
    · have lt := tb.2.2.2 (by have := y.1; omega)
      unfold sTestL
      rw [sOwn_pos y]
      show OutF f N b u D A T p p (nao f N) ((sAd2 (sBoth f N n S S2 T (tEnd f N p)) (-7)).bind fun a => sTestL f N n S S2 k a.1 a.2)
      rcases W_step h hr h57 hD h1 hk h36 (Or.inr y) with ⟨f1, t4⟩ | ⟨v, sv, rv, v57, tqv, v37, v36⟩
      · refine Or.inl ⟨f1, ?_⟩
        rw [bad_both hS.1 t4]
        exact Or.inl rfl
      · rcases Sim_both (T := T) hn hS hS2 sv rv v57 (tqv.1.trans hD) h1 (tqv.2.1.trans h54) (by rw [tqv.2.2.1 (D - 1) (by omega)]; exact hk) v37 v36 (by omega) (by omega) with ⟨f1, bd⟩ | ⟨a, A', sa, ms, hr2, m57, tq, m37, m36, m36t, X1, q, cd⟩
        · exact Or.inl ⟨f1, (Bad.ad2 bd).bd (fun a ha => bad_testL ha k)⟩
        · rw [sa]
          obtain ⟨t, st, et⟩ := sAd2_ok (T := a.1) (e := a.2) (x := -7) (by have := ms.le; omega)
          rw [show sAd2 (some a) (-7) = some (t, a.2) from st]
          show OutF f N b u D A T p p (nao f N) (sTestL f N n S S2 k t a.2)
          have tq' := tqv.trans tq
          rcases ih A' t a.2 ms hr2 m57 (tq'.1.trans hD) (tq'.2.1.trans h54) (by rw [tq'.2.2.1 (D - 1) (by omega)]; exact hk) m37 m36 m36t (by omega) (by omega) (by omega) X1 with ⟨f1, bd⟩ | ⟨c2, A2, sc, ms2, hr3, m572, tq2, n37, n36, n36t, X2, q2, cd2⟩
          · exact Or.inl ⟨f1, bd⟩
          · exact Or.inr ⟨c2, A2, sc, ms2, hr3, m572, tq'.trans tq2, n37, n36, n36t, X2, by omega, by omega⟩
    · unfold sTestL
      rw [sOwn_neg y]
      exact Or.inr ⟨(T, p), A, rfl, h, hr, h57, TQ.rf, h37, h36, h36t, ⟨n17, y⟩, Nat.le_refl p, Int.le_refl _⟩
theorem Sim_test {f : Nat → Int} {N b n : Nat} {u : St} {o : Int} {S S2 : PT} (hn : (n : Int) + o = 8) (hS : SimS f N b u o S) (hS2 : 0 < n → SimT f N b u (o + 1) S2) : SimT f N b u o (sTest f N n S S2) := by
  refine ⟨fun T p h => bad_test hS.1 h, ?_⟩
  intro A T p D h hr h57 hD h1 h54 hk h37 h36 hT hp
  have N16 : N ≤ 1600 := h.1.2.1
  unfold sTest
  rcases Sim_both hn hS hS2 h hr h57 hD h1 h54 hk h37 h36 hT hp with ⟨f1, bd⟩ | ⟨a, A', sa, ms, hr2, m57, tq, m37, m36, m36t, X1, q, cd⟩
  · exact Or.inl ⟨f1, bd.bd (fun a ha => bad_testL ha _)⟩
  · rw [sa]
    show OutF f N b u D A T p (p + 1) (nao f N) (sTestL f N n S S2 1600 a.1 a.2)
    rcases Sim_testL hn hS hS2 h1 1600 A' a.1 a.2 ms hr2 m57 (tq.1.trans hD) (tq.2.1.trans h54) (by rw [tq.2.2.1 (D - 1) (by omega)]; exact hk) m37 m36 m36t (by omega) (by omega) (by omega) X1 with ⟨f1, bd⟩ | ⟨c2, A2, sc, ms2, hr3, m572, tq2, n37, n36, n36t, X2, q2, cd2⟩
    · exact Or.inl ⟨f1, bd⟩
    · exact Or.inr ⟨c2, A2, sc, ms2, hr3, m572, tq.trans tq2, n37, n36, n36t, X2, by omega, by omega⟩
theorem Sim_testN {f : Nat → Int} {N b : Nat} {u : St} : ∀ n : Nat, SimT f N b u (8 - (n : Int)) (sTestN f N n)
  | 0 => Sim_test (n := 0) (by omega) (Sim_sumN 0) (fun h => absurd h (by omega))
  | n + 1 => Sim_test (n := n + 1) (by omega) (Sim_sumN (n + 1)) (fun _ => by
    have := Sim_testN (f := f) (N := N) (b := b) (u := u) n
    rw [show 8 - ((n + 1 : Nat) : Int) + 1 = 8 - (n : Int) by omega]
    exact this)
/-! The reference's bars. -/
def Kp (T : St) (r : Option (St × Nat)) : Prop := ∀ a, r = some a → ∀ j, j ≠ 19 → j ≠ 20 → a.1 j = T j
theorem Kp.no {T : St} : Kp T none := fun a h => absurd h (by simp)
theorem Kp.so {T : St} {e : Nat} : Kp T (some (T, e)) := fun a h j _ _ => by rw [← Option.some.inj h]
theorem Kp.bd {T : St} {r : Option (St × Nat)} {k : St × Nat → Option (St × Nat)} (h : Kp T r) (hk : ∀ a, Kp a.1 (k a)) : Kp T (r.bind k) := by
  intro c hc j h1 h2
  cases hr : r with
  | none => rw [hr] at hc; exact absurd hc (by simp)
  | some a =>
    rw [hr] at hc
    exact (hk a c hc j h1 h2).trans (h a hr j h1 h2)
theorem Kp.bn {T : St} {α : Type} {r : Option α} {k : α → Option (St × Nat)} (hk : ∀ a, Kp T (k a)) : Kp T (r.bind k) := by
  intro c hc j h1 h2
  cases hr : r with
  | none => rw [hr] at hc; exact absurd hc (by simp)
  | some a =>
    rw [hr] at hc
    exact hk a c hc j h1 h2
theorem Kp.adc {T : St} {e : Nat} {x : Int} : Kp T ((sAdC T x).bind fun t => some (t, e)) := by
  intro c hc j h1 h2
  unfold sAdC at hc
  by_cases g : T 19 2 < 1600
  · rw [if_pos g] at hc
    have hc := Option.some.inj hc
    rw [← hc]
    show stA (stA T 20 (T 19 2).toNat x) 19 2 (T 19 2 + 1) j = T j
    rw [stA_ne _ _ h1, stA_ne _ _ h2]
  · rw [if_neg g] at hc
    exact absurd hc (by simp)
theorem Kp.ad2 {T : St} {r : Option (St × Nat)} {x : Int} (h : Kp T r) : Kp T (sAd2 r x) := h.bd (fun _ => Kp.adc)
def KS (S : PT) : Prop := ∀ T p, Kp T (S T p)
theorem KS_part {f : Nat → Int} {N n : Nat} {S : PT} (hS : KS S) : KS (sPart f N n S) := by
  intro T p
  have hp : ∀ e, Kp T (sPair f N n S T e) := by
    intro e
    unfold sPair
    refine Kp.bn (fun p1 => ?_)
    by_cases g : n = 0
    · rw [if_pos g]; exact Kp.no
    · rw [if_neg g]
      exact (hS T p1).bd (fun a => Kp.bn (fun p2 => (hS a.1 p2).bd (fun b => Kp.bn (fun p3 => Kp.so))))
  unfold sPart
  by_cases h2 : tKind f N p = 2
  · rw [if_pos h2]; exact Kp.ad2 Kp.so
  · rw [if_neg h2]
    cases sSign f N 40 p with
    | some p1 =>
      show Kp T (if n = 0 then none else (S T p1).bind fun a => (sSign f N 41 a.2).bind fun p2 => some (a.1, p2))
      by_cases g : n = 0
      · rw [if_pos g]; exact Kp.no
      · rw [if_neg g]
        exact (hS T p1).bd (fun a => Kp.bn (fun p2 => Kp.so))
    | none =>
      cases sOwn f N 20 p with
      | some e => exact Kp.ad2 Kp.so
      | none =>
        cases sOwn f N 21 p with
        | some e => exact Kp.ad2 Kp.so
        | none =>
          cases sOwn f N 22 p with
          | some e => exact Kp.ad2 Kp.so
          | none =>
            cases sOwn f N 23 p with
            | some e => exact Kp.ad2 Kp.so
            | none =>
              cases sOwn f N 24 p with
              | some e => exact Kp.ad2 (hp e)
              | none =>
                cases sOwn f N 25 p with
                | some e => exact Kp.ad2 (hp e)
                | none => exact Kp.no
theorem KS_prod {f : Nat → Int} {N n : Nat} {S : PT} (hS : KS S) : KS (sProd f N n S) := by
  have lp : ∀ k, KS (sProdL f N n S k) := by
    intro k
    induction k with
    | zero => intro T p; exact Kp.no
    | succ k ih =>
      intro T p
      unfold sProdL
      cases sSign f N 47 p with
      | some e => exact (Kp.ad2 (KS_part hS T e)).bd (fun a => ih a.1 a.2)
      | none =>
        cases sSign f N 37 p with
        | some e => exact (Kp.ad2 (KS_part hS T e)).bd (fun a => ih a.1 a.2)
        | none =>
          cases sSign f N 42 p with
          | some e => exact (Kp.ad2 (KS_part hS T e)).bd (fun a => ih a.1 a.2)
          | none => exact Kp.so
  intro T p
  exact (KS_part hS T p).bd (fun a => lp 1600 a.1 a.2)
theorem KS_sum {f : Nat → Int} {N n : Nat} {S : PT} (hS : KS S) : KS (sSum f N n S) := by
  have lp : ∀ k, KS (sSumL f N n S k) := by
    intro k
    induction k with
    | zero => intro T p; exact Kp.no
    | succ k ih =>
      intro T p
      unfold sSumL
      cases sSign f N 45 p with
      | some e => exact (Kp.ad2 (KS_prod hS T e)).bd (fun a => ih a.1 a.2)
      | none =>
        cases sSign f N 43 p with
        | some e => exact (Kp.ad2 (KS_prod hS T e)).bd (fun a => ih a.1 a.2)
        | none => exact Kp.so
  intro T p
  exact (KS_prod hS T p).bd (fun a => lp 1600 a.1 a.2)
theorem KS_sumN {f : Nat → Int} {N : Nat} : ∀ n, KS (sSumN f N n)
  | 0 => KS_sum (fun _ _ => Kp.no)
  | n + 1 => KS_sum (KS_sumN n)
theorem KS_fact {f : Nat → Int} {N n : Nat} {S S2 : PT} (hS : KS S) (hS2 : KS S2) : KS (sFact f N n S S2) := by
  intro T p
  unfold sFact
  refine Kp.bd ?_ (fun a => ?_)
  · unfold sFactB
    cases sOwn f N 19 (sNots f N 1600 0 p).2 with
    | some e => exact Kp.ad2 Kp.so
    | none =>
      cases sSign f N 91 (sNots f N 1600 0 p).2 with
      | some e =>
        show Kp T (if n = 0 then none else (S2 T e).bind fun a => (sSign f N 93 a.2).bind fun p2 => some (a.1, p2))
        by_cases g : n = 0
        · rw [if_pos g]; exact Kp.no
        · rw [if_neg g]
          exact (hS2 T e).bd (fun a => Kp.bn (fun p2 => Kp.so))
      | none => exact (hS T _).bd (fun a => Kp.bn (fun c => Kp.ad2 (hS a.1 c.2)))
  · by_cases g : (sNots f N 1600 0 p).1 = 0
    · rw [if_pos g]; exact Kp.so
    · rw [if_neg g]; exact Kp.ad2 Kp.so
theorem KS_both {f : Nat → Int} {N n : Nat} {S S2 : PT} (hS : KS S) (hS2 : KS S2) : KS (sBoth f N n S S2) := by
  have lp : ∀ k, KS (sBothL f N n S S2 k) := by
    intro k
    induction k with
    | zero => intro T p; exact Kp.so
    | succ k ih =>
      intro T p
      unfold sBothL
      cases sOwn f N 17 p with
      | some e => exact (Kp.ad2 (KS_fact hS hS2 T e)).bd (fun a => ih a.1 a.2)
      | none => exact Kp.so
  intro T p
  exact (KS_fact hS hS2 T p).bd (fun a => lp 1600 a.1 a.2)
theorem KS_test {f : Nat → Int} {N n : Nat} {S S2 : PT} (hS : KS S) (hS2 : KS S2) : KS (sTest f N n S S2) := by
  have lp : ∀ k, KS (sTestL f N n S S2 k) := by
    intro k
    induction k with
    | zero => intro T p; exact Kp.so
    | succ k ih =>
      intro T p
      unfold sTestL
      cases sOwn f N 16 p with
      | some e => exact (Kp.ad2 (KS_both hS hS2 T e)).bd (fun a => ih a.1 a.2)
      | none => exact Kp.so
  intro T p
  exact (KS_both hS hS2 T p).bd (fun a => lp 1600 a.1 a.2)
theorem KS_testN {f : Nat → Int} {N : Nat} : ∀ n, KS (sTestN f N n)
  | 0 => KS_test (KS_sumN 0) (fun _ _ => Kp.no)
  | n + 1 => KS_test (KS_sumN (n + 1)) (KS_testN n)
theorem MR.keep {b : Nat} {A T T' : St} (h : MR b A T) (g : ∀ j, j ≠ 19 → j ≠ 20 → T' j = T j) : MR b A T' := by
  have e : T' = fun j => bif Nat.beq j 19 then T' 19 else bif Nat.beq j 20 then T' 20 else T j := by
    funext j
    by_cases h1 : j = 19
    · subst h1; rfl
    · by_cases h2 : j = 20
      · subst h2; rfl
      · show T' j = bif Nat.beq j 19 then T' 19 else bif Nat.beq j 20 then T' 20 else T j
        rw [beq_ne h1, beq_ne h2, g j h1 h2]
        rfl
  obtain ⟨⟨k0, k1, k2, k3, k4⟩, hc, ht, hB, hd, hl, hk, hp, hh, hwn, hm, hb⟩ := h
  rw [e]
  refine ⟨⟨k0, k1, k2, k3, k4⟩, hc, ht, hB, hd, hl, hk.cg rfl rfl rfl rfl rfl rfl (fun k => ?_), hp, hh, hwn, hm, hb⟩
  show (bif Nat.beq (27 + k) 19 then T' 19 else bif Nat.beq (27 + k) 20 then T' 20 else T (27 + k)) = T (27 + k)
  rw [beq_ne (show 27 + k ≠ 19 by omega), beq_ne (show 27 + k ≠ 20 by omega)]
  rfl
theorem M_reads {f : Nat → Int} {N b p : Nat} {A u T : St} (h : MS f N b p A) (hT : T 19 2 ≤ (p : Int)) (hp : 1 ≤ p) (hq : q_X12_reads 1 A u) : (1 ≤ u 0 8 ∧ Bad f N (sTestN f N 8 T p)) ∨ (u 0 8 = 0 ∧ ∃ a, sTestN f N 8 T p = some a ∧ MS f N b a.2 u ∧ p < a.2 ∧ a.1 19 2 ≤ (a.2 : Int)) := by
  rcases (hq.1 : tr_r_X12_reads 1 A u) with ⟨_, A2, e2, h2⟩ | ⟨c, _⟩
  · rcases h2 with ⟨c, _⟩ | ⟨_, h2⟩
    · exact absurd c (by decide)
    · obtain ⟨_, A9, hpu, nn, h2⟩ := (h2 : tr_d_X12_reads_1 A2 u 1)
      obtain ⟨A1, e1, e9⟩ := (hpu.1 : tr_r_X12_pushes 1 A2 A9)
      have d2 : A2 0 53 = 0 := by rw [e2]; rfl
      rw [d2] at e1
      have s9 : MS f N b p A9 := by
        rw [e9, e1, e2]
        refine h.fr rfl (fun k hk => ?_)
        show stA (stA (stA (stA (stA (stA (stA (stA (stA A 0 53 0) 0 54 0) 0 56 0) 0 57 0) 35 _ 1) 36 _ 0) 37 _ 1) 39 _ _) 0 53 _ 0 k = A 0 k
        rw [st0_k (by decide) (by decide) hk]
        show stA (stA (stA (stA A 0 53 0) 0 54 0) 0 56 0) 0 57 0 0 k = A 0 k
        rw [st0_k (by decide) (by decide) hk, st0_k (by decide) (by decide) hk, st0_k (by decide) (by decide) hk, st0_k (by decide) (by decide) hk]
      have f53 : A9 0 53 = ((1 : Nat) : Int) := by rw [e9, e1]; rfl
      have f54 : A9 0 54 = 0 := by rw [e9, e1, e2]; rfl
      have f57 : A9 0 57 = 0 := by rw [e9, e1, e2]; rfl
      have r35 : A9 35 0 = 1 := by rw [e9, e1]; rfl
      have r36 : A9 36 0 = 0 := by rw [e9, e1]; rfl
      have r37 : A9 37 0 = 1 := by rw [e9, e1]; rfl
      have sim := (Sim_testN (f := f) (N := N) (b := b) (u := u) 8).2 A9 T p 1 s9 ⟨nn, h2⟩ f57 f53 (by decide) (by rw [f54]; rfl) (Or.inl r35) (by show ¬ A9 37 0 = 0; rw [r37]; decide) r36 hT hp
      rcases sim with g | ⟨a, A', sa, ms, hr, m57, tq, m37, m36, m36t, na, q, cd⟩
      · exact Or.inl g
      · have k1 : A' 35 0 = 1 := (tq.2.2.1 0 (by decide)).trans r35
        have d1 : A' 0 53 = ((1 : Nat) : Int) := tq.1.trans f53
        obtain ⟨z, v, hg, h3⟩ := RN_go hr (by rw [m57]; decide)
        have m36 : ¬ A' 36 0 = 0 := m36
        have g8 : d_X12_goesOn_8 A' z v 1 A' := by
          rcases G_base (D := 1) ms d1 (by decide) hg with ⟨g1, g2, _⟩ | ⟨_, z2, hz2, g2⟩
          · exact absurd g2 (m36t g1)
          · have hz2 : (z2 = 1 ∧ (A' 35 0 = 1 ∨ A' 35 0 = 5)) ∨ (z2 = 0 ∧ ¬ (A' 35 0 = 1 ∨ A' 35 0 = 5)) := hz2
            have g2 : d_X12_goesOn_2 A' z v (A' 35 0) z2 := g2
            rw [k1] at hz2 g2
            have e2 : z2 = 1 := by
              rcases hz2 with ⟨g, _⟩ | ⟨_, g⟩
              · exact g
              · exact absurd (Or.inl rfl) g
            rcases G_cmp (D := 1) ms d1 (by decide) (Or.inl e2) g2 with ⟨_, g, _⟩ | ⟨_, g2⟩
            · exact absurd g m36
            · rcases G_andor (D := 1) ms d1 (by decide) (Or.inl e2) g2 with ⟨_, g, _⟩ | ⟨_, g2⟩
              · rcases g with g | g
                · exact absurd g na.1
                · exact absurd g na.2
              · rcases G_end (D := 1) ms d1 (by decide) (Or.inl e2) g2 with ⟨_, g, _⟩ | ⟨_, g2⟩
                · exact absurd g m36
                · exact g2
        have gk := G_k1 (by decide) ms.ns g8
        have eu : u = v := by
          rcases h3 with ⟨_, e⟩ | ⟨c, _⟩ | ⟨c, _⟩
          · exact e
          · exact absurd gk.1 c
          · exact absurd gk.1 c
        have mu : MS f N b a.2 u := by rw [eu]; exact ms.sb gk.2
        exact Or.inr ⟨mu.ns, a, sa, mu, by omega, by omega⟩
  · exact absurd (Int.le_of_eq h.ns) c
/-! The reference's bars, statements, town. -/
def rr (A B : St) : Prop := ∀ j, j ≠ 0 → j ≤ 30 → A j = B j
theorem rq.rr {A B : St} (h : rq A B) : rr A B := fun j hj _ => h j hj
theorem rr.trans {A B C : St} (h : rr A B) (g : rr B C) : rr A C := fun j h0 h1 => (h j h0 h1).trans (g j h0 h1)
theorem rr.st {A B : St} {i : Nat} {v : Int} {j : Nat} (h : rr A B) : rr (stA A j i v) (stA B j i v) := by
  intro k hk h30
  by_cases e : k = j
  · subst e
    rw [stA_same, stA_same, h k hk h30]
  · rw [stA_ne _ _ e, stA_ne _ _ e, h k hk h30]
theorem rr.so {A B : St} {i : Nat} {v : Int} {j : Nat} (h : rr A B) (hj : 30 < j) : rr (stA A j i v) B := by
  intro k hk h30
  rw [stA_ne _ _ (by omega), h k hk h30]
theorem rr.s0 {A B : St} {i : Nat} {v : Int} (h : rr A B) : rr (stA A 0 i v) B := by
  intro k hk h30
  rw [stA_ne _ _ hk, h k hk h30]
theorem MR.rr {b : Nat} {A u T : St} (h : MR b A T) (g : rr u A) : MR b u T := by
  have e : u = fun j => bif Nat.beq j 0 then u 0 else bif Nat.ble j 30 then A j else u j := by
    funext j
    cases j with
    | zero => rfl
    | succ j =>
      show u (j + 1) = bif Nat.ble (j + 1) 30 then A (j + 1) else u (j + 1)
      cases hb : Nat.ble (j + 1) 30 with
      | false => rfl
      | true => exact g (j + 1) (by omega) (Nat.le_of_ble_eq_true hb)
  rw [e]
  exact h
/-- a statement's answer, with the codes' bound -/
def MTb (f : Nat → Int) (N b p : Nat) (r : Option (St × Nat)) (u : St) : Prop := (u 0 8 = 0 ∧ ∃ a, r = some a ∧ MR b u a.1 ∧ MS f N b a.2 u ∧ a.1 19 2 ≤ (a.2 : Int) ∧ p ≤ a.2) ∨ (1 ≤ u 0 8 ∧ Bad f N r)
theorem tEnd_ge {f : Nat → Int} {N p : Nat} : p ≤ tEnd f N p := by
  by_cases h : p ≤ N
  · have := tEnd_b (f := f) h
    omega
  · have hs : sAt f N p = p := by
      unfold sAt
      rw [show N - p = 0 by omega]
      rfl
    unfold tEnd
    rw [hs, if_pos (by omega)]
    exact Nat.le_refl p
theorem pos_name {f : Nat → Int} {N p : Nat} {a : Int × Nat} (h : sName f N p = some a) : a.2 = tEnd f N p := by
  unfold sName at h
  split at h
  · rw [← Option.some.inj h]
  · exact absurd h (by simp)
theorem pos_new {f : Nat → Int} {N p : Nat} {T : St} {a : Int × Nat} (h : sNew f N T p = some a) : a.2 = tEnd f N p := by
  unfold sNew at h
  cases hs : sName f N p with
  | none => rw [hs] at h; exact absurd h (by simp)
  | some c =>
    rw [hs] at h
    have h : (if sFind T 0 c.1 = -1 ∧ sFind T 1 c.1 = -1 ∧ sFind T 2 c.1 = -1 ∧ sFind T 3 c.1 = -1 ∧ sFind T 4 c.1 = -1 then some (c.1, c.2) else none) = some a := h
    split at h
    · rw [← Option.some.inj h]; exact pos_name hs
    · exact absurd h (by simp)
theorem pos_ask {f : Nat → Int} {N p k : Nat} {T : St} {a : Int × Nat} (h : sAsk f N T k p = some a) : a.2 = tEnd f N p := by
  unfold sAsk at h
  cases hs : sName f N p with
  | none => rw [hs] at h; exact absurd h (by simp)
  | some c =>
    rw [hs] at h
    have h : (if sFind T k c.1 = -1 then none else some (sFind T k c.1, c.2)) = some a := h
    split at h
    · exact absurd h (by simp)
    · rw [← Option.some.inj h]; exact (pos_name hs : c.2 = tEnd f N p)
theorem pos_spot {f : Nat → Int} {N p : Nat} {T : St} {a : Int × Nat} (h : sSpot f N T p = some a) : a.2 = tEnd f N p := by
  unfold sSpot at h
  cases hs : sName f N p with
  | none => rw [hs] at h; exact absurd h (by simp)
  | some c =>
    rw [hs] at h
    have h : (if sFind T 0 c.1 ≠ -1 then some (sFind T 0 c.1 + 10, c.2) else if sFind T 1 c.1 ≠ -1 ∧ T 10 (sFind T 1 c.1).toNat = 0 then some (sFind T 1 c.1 + 20, c.2) else none) = some a := h
    split at h
    · rw [← Option.some.inj h]; exact (pos_name hs : c.2 = tEnd f N p)
    · split at h
      · rw [← Option.some.inj h]; exact (pos_name hs : c.2 = tEnd f N p)
      · exact absurd h (by simp)
theorem pos_num {f : Nat → Int} {N p : Nat} {lo hi : Int} {a : Int × Nat} (h : sNum f N lo hi p = some a) : a.2 = tEnd f N p := by
  unfold sNum at h
  split at h
  · rw [← Option.some.inj h]
  · exact absurd h (by simp)
theorem pos_own0 {f : Nat → Int} {N p k e : Nat} (h : sOwn f N k p = some e) : e = tEnd f N p := by
  unfold sOwn at h
  split at h
  · rw [← Option.some.inj h]
  · exact absurd h (by simp)
theorem pos_own {f : Nat → Int} {N p k e : Nat} (hp : p ≤ N) (h : sOwn f N k p = some e) : p + 1 ≤ e := by
  have e1 := pos_own0 h
  unfold sOwn at h
  split at h
  · rename_i g
    have tb := tEnd_b (f := f) hp
    have := tb.2.2.2 (by have := g.1; omega)
    omega
  · exact absurd h (by simp)
theorem pos_sign {f : Nat → Int} {N p e : Nat} {c : Int} (hp : p ≤ N) (h : sSign f N c p = some e) : p + 1 ≤ e := by
  unfold sSign at h
  split at h
  · rename_i g
    have tb := tEnd_b (f := f) hp
    have := tb.2.2.2 (by have := g.1; omega)
    rw [← Option.some.inj h]
    omega
  · exact absurd h (by simp)
theorem M_bar {f : Nat → Int} {N b p : Nat} {A u T : St} (hI : IM A) (h : MS f N b p A) (hR : MR b A T) (hT : T 19 2 ≤ (p : Int)) (hq : q_X12_barring A u) : MTb f N b p (if T 1 7 < 6 then sBar f N T (tEnd f N p) else none) u := by
  have hb := h.bk
  have eb : (A 0 47).toNat = b := by rw [hb]; exact Int.toNat_natCast b
  have hct : A 29 b = T 1 7 := hR.2.1.2.2
  have r2 : (0 : Int) ≤ A 29 b ∧ A 29 b ≤ 6 := hI 29 b
  obtain ⟨n, hn⟩ : ∃ n : Nat, T 1 7 = (n : Int) := ⟨(T 1 7).toNat, by omega⟩
  obtain ⟨z1, hz1, h2⟩ := (hq.1 : tr_r_X12_barring A u)
  rw [eb, hct] at hz1
  have d1 : ∀ x, (x = 0 ↔ T 1 7 < 6) → d_X12_barring_1 A u x → MTb f N b p (if T 1 7 < 6 then sBar f N T (tEnd f N p) else none) u := by
    intro x hx h2
    obtain ⟨_, z8, A9, hc, h2⟩ := (h2 : tr_d_X12_barring_1 A u x)
    obtain ⟨q9, g⟩ := M_counts h hc
    rcases h2 with ⟨c1, h2⟩ | ⟨c1, rfl⟩
    · rcases g with ⟨_, x0, s9⟩ | ⟨g, _⟩
      · have lt := hx.mp x0
        rw [if_pos lt]
        obtain ⟨z14, hz14, h2⟩ := h2
        have e14 : z14 = (n : Int) := by rw [hz14, eb, q9 29 (by decide), hct, hn]
        have hNA := hR.1.rq q9
        have ix : (6 * A 0 47 + z14).toNat = 6 * b + n := by rw [hb, e14]; omega
        have n1 := hNA.2.1
        have f5 : ∀ A76 : St, 1 ≤ A76 0 8 → d_X12_barring_5 z14 A u A76 → 1 ≤ u 0 8 := by
          intro A76 g h3
          obtain ⟨_, A80, e, h3⟩ := (h3 : tr_d_X12_barring_5 z14 A u A76)
          rcases h3 with ⟨_, hu⟩ | ⟨c, _⟩
          · rw [hu, e]; exact g
          · omega
        have f4 : ∀ A39 : St, 1 ≤ A39 0 8 → d_X12_barring_4 z14 A u A39 → 1 ≤ u 0 8 := by
          intro A39 g h3
          obtain ⟨_, z41, A42, hk, A46, e46, A47, hwd, A51, e51, h3⟩ := (h3 : tr_d_X12_barring_4 z14 A u A39)
          have e1 := X_ask_1 g hk
          have g46 : 1 ≤ A46 0 8 := by rw [e46, e1]; exact g
          have e2 := X_wd g46 hwd
          rcases h3 with ⟨_, h3⟩ | ⟨c, _⟩
          · refine f5 A51 ?_ h3
            rw [e51, e2]; exact g46
          · rw [e2] at c; omega
        have sp : ∀ p, sBar f N T p = (sAsk f N T 1 p).bind fun a => if T 10 a.1.toNat = 0 then none else (sOwn f N 15 a.2).bind fun e => (sTestN f N 8 T e).bind fun b => some (sBarAdd b.1 a.1 (T 19 2) (b.1 19 2), b.2) := fun _ => rfl
        rw [sp]
        have d4 : (∀ c, sAsk f N T 1 (tEnd f N p) = some c → ¬ T 10 c.1.toNat = 0) → d_X12_barring_4 z14 A u A9 → MTb f N b p ((sAsk f N T 1 (tEnd f N p)).bind fun a => if T 10 a.1.toNat = 0 then none else (sOwn f N 15 a.2).bind fun e => (sTestN f N 8 T e).bind fun b => some (sBarAdd b.1 a.1 (T 19 2) (b.1 19 2), b.2)) u := by
          intro hs h3
          obtain ⟨_, z41, A42, hk, A46, e46, A47, hwd, A51, e51, h3⟩ := (h3 : tr_d_X12_barring_4 z14 A u A9)
          rw [ix] at e46 e51
          obtain ⟨m, q42⟩ := M_ask_1 s9 n1 hk
          have e468 : A46 0 8 = A42 0 8 := by rw [e46]; rfl
          have e518 : A51 0 8 = A47 0 8 := by rw [e51]; rfl
          have f47 : 1 ≤ A47 0 8 → 1 ≤ u 0 8 := by
            intro g
            rcases h3 with ⟨_, h3⟩ | ⟨c, _⟩
            · exact f5 A51 (by omega) h3
            · omega
          rcases m with ⟨m8, a, sa, hz41, s42⟩ | ⟨m8, mb⟩
          · rw [sa]
            show MTb f N b p (if T 10 a.1.toNat = 0 then none else (sOwn f N 15 a.2).bind fun e => (sTestN f N 8 T e).bind fun b => some (sBarAdd b.1 a.1 (T 19 2) (b.1 19 2), b.2)) u
            rw [if_neg (hs a sa)]
            have s46 : MS f N b a.2 A46 := by rw [e46]; exact s42.fr rfl (fun k _ => rfl)
            obtain ⟨m1, q47⟩ := M_wd (k := 15) (by decide) rfl s46 hwd
            rcases m1 with ⟨m18, e, se, s47⟩ | ⟨m18, mb1⟩
            · rw [se]
              show MTb f N b p ((sTestN f N 8 T e).bind fun b => some (sBarAdd b.1 a.1 (T 19 2) (b.1 19 2), b.2)) u
              have s51 : MS f N b e A51 := by rw [e51]; exact s47.fr rfl (fun k _ => rfl)
              have pa : tEnd f N p ≤ a.2 := by rw [pos_ask sa]; exact tEnd_ge
              have pe : a.2 + 1 ≤ e := pos_own (s46.le) se
              have pp : p ≤ tEnd f N p := tEnd_ge
              rcases h3 with ⟨c, _⟩ | ⟨_, A71, hre, h3⟩
              · exact absurd m18 c
              · have q71 : rr A71 A51 := by
                  intro j h0 h30
                  refine hre.2.2.1.1 j h0 ?_
                  rcases (show j = 1 ∨ j = 2 ∨ j = 3 ∨ j = 4 ∨ j = 5 ∨ j = 6 ∨ j = 7 ∨ j = 8 ∨ j = 9 ∨ j = 10 ∨ j = 11 ∨ j = 12 ∨ j = 13 ∨ j = 14 ∨ j = 15 ∨ j = 16 ∨ j = 17 ∨ j = 18 ∨ j = 19 ∨ j = 20 ∨ j = 21 ∨ j = 22 ∨ j = 23 ∨ j = 24 ∨ j = 25 ∨ j = 26 ∨ j = 27 ∨ j = 28 ∨ j = 29 ∨ j = 30 by omega) with rfl | rfl | rfl | rfl | rfl | rfl | rfl | rfl | rfl | rfl | rfl | rfl | rfl | rfl | rfl | rfl | rfl | rfl | rfl | rfl | rfl | rfl | rfl | rfl | rfl | rfl | rfl | rfl | rfl | rfl <;> rfl
                obtain ⟨_, A80, e80, h3⟩ := (h3 : tr_d_X12_barring_5 z14 A u A71)
                rw [ix] at e80
                rw [eb] at h3
                rcases M_reads (T := T) s51 (by omega) (by omega) hre with ⟨f1, bd⟩ | ⟨f1, c, sc, s71, lc, cd⟩
                · refine Or.inr ⟨?_, bd.bd (fun c hc => bad_some hc)⟩
                  rcases h3 with ⟨_, hu⟩ | ⟨c, _⟩
                  · rw [hu, e80]; exact f1
                  · omega
                · rcases h3 with ⟨c, _⟩ | ⟨_, z97, hz97, A98, e98, hu⟩
                  · exact absurd f1 c
                  · have q46 : rr A46 (stA A 30 (6 * b + n) a.1) := by rw [e46, hz41]; exact (q42.trans q9).rr.st
                    have q80 : rr A80 (stA A 30 (6 * b + n) a.1) := by
                      rw [e80]
                      refine rr.so (q71.trans ?_) (by decide)
                      rw [e51]
                      exact rr.so (q47.rr.trans q46) (by decide)
                    have e97 : z97 = (n : Int) := by
                      rw [hz97, q80 29 (by decide) (by decide)]
                      exact hct.trans hn
                    rw [sc]
                    have kp := KS_testN (f := f) (N := N) 8 T e c sc
                    have hn' : c.1 1 7 = (n : Int) := by rw [kp 1 (by decide) (by decide)]; exact hn
                    refine Or.inl ⟨by rw [hu, e98, e80]; exact f1, (sBarAdd c.1 a.1 (T 19 2) (c.1 19 2), c.2), rfl, ?_, ?_, cd, by show p ≤ c.2; omega⟩
                    · refine (MR_bar (hR.keep kp) hn').rr ?_
                      rw [hu, e98, e97]
                      exact q80.st
                    · rw [hu, e98, e80]
                      exact s71.fr rfl (fun k _ => rfl)
            · exact Or.inr ⟨f47 m18, mb1.bd (fun c hc => by rw [(Sim_testN (f := f) (N := N) (b := b) (u := u) 8).1 T c hc]; exact Or.inl rfl)⟩
          · have g46 : 1 ≤ A46 0 8 := by omega
            have e2 := X_wd g46 hwd
            refine Or.inr ⟨f47 (by rw [e2]; exact g46), mb.bd (fun c hc => ?_)⟩
            by_cases g : T 10 c.1.toNat = 0
            · rw [if_pos g]; exact Or.inl rfl
            · rw [if_neg g, bad_own hc]; exact Or.inl rfl
        have d3 : sAsk f N T 1 (tEnd f N p) = none → d_X12_barring_3 z14 A A9 u (-1) → MTb f N b p ((sAsk f N T 1 (tEnd f N p)).bind fun a => if T 10 a.1.toNat = 0 then none else (sOwn f N 15 a.2).bind fun e => (sTestN f N 8 T e).bind fun b => some (sBarAdd b.1 a.1 (T 19 2) (b.1 19 2), b.2)) u := by
          intro hs h3
          obtain ⟨_, h3⟩ := (h3 : tr_d_X12_barring_3 z14 A A9 u (-1))
          rcases h3 with ⟨_, h3⟩ | ⟨c, _⟩
          · exact d4 (fun c sc => by rw [hs] at sc; exact absurd sc (by simp)) h3
          · exact absurd rfl c
        rcases pre_1 (P0 := d_X12_barring_2 z14 A A9 u) (P := fun v => d_X12_barring_3 z14 A A9 u v) s9 n1 h2 with ⟨hs, h3⟩ | ⟨v, v1, vb, hs, _, _, _, h3⟩
        · rcases h3 with h3 | h3
          · exact d3 hs h3
          · exact d3 hs h3
        · obtain ⟨_, h3⟩ := (h3 : tr_d_X12_barring_3 z14 A A9 u v)
          rcases h3 with ⟨c, _⟩ | ⟨_, z33, hz33, h3⟩
          · exact absurd c v1
          · have ix2 : (10 * A 0 47 + v).toNat = 10 * b + v.toNat := by rw [hb]; omega
            have kb := hR.2.2.2.1 v.toNat (by omega)
            rw [ix2, q9 8 (by decide)] at hz33
            rw [← hz33] at kb
            rcases h3 with ⟨c2, h3⟩ | ⟨c2, A35, hbl, h3⟩
            · refine d4 (fun c sc => ?_) h3
              rw [hs] at sc
              have sc := Option.some.inj sc
              rw [← sc]
              exact kb.mp c2
            · refine Or.inr ⟨f4 A35 hbl.2.2.2 h3, Or.inl ?_⟩
              rw [hs]
              show (if T 10 v.toNat = 0 then none else _) = none
              by_cases g : T 10 v.toNat = 0
              · rw [if_pos g]
              · exact absurd (kb.mpr g) c2
      · exact absurd g c1
    · rcases g with ⟨g, _⟩ | ⟨_, g8, g⟩
      · omega
      · refine Or.inr ⟨g8, ?_⟩
        by_cases lt : T 1 7 < 6
        · rw [if_pos lt]
          rcases g with g | g
          · exact absurd (hx.mpr lt) g
          · exact Or.inl (bad_Bar g)
        · rw [if_neg lt]
          exact Or.inl rfl
  rcases h2 with ⟨c, h2⟩ | ⟨c, h2⟩
  · exact d1 0 ⟨fun _ => by omega, fun _ => rfl⟩ h2
  · exact d1 1 ⟨fun g => absurd g (by decide), fun g => by omega⟩ h2
